/-! 69.lawf.lean.txt -/
section
theorem wk_88 : (.classLink RL 8 RX1 : Jvm.Cond) ∈ WS := WS_t1 30 (by eq_refl) (by eq_refl)
theorem wk_89 : (.instantiable RX1 7 : Jvm.Cond) ∈ WS := WS_t1 31 (by eq_refl) (by eq_refl)
theorem vN_RL_8 : vNew RL 8 5 [.null, .null, .null, .int 0, .int 0, .int 0, .int 0] := ⟨RX1, TX1, tyX1, rfl, iW_5, tyX1_ok, wk_88, wk_89, wk_59, fun j hj => by match j, hj with | 0, _ => rfl | 1, _ => rfl | 2, _ => rfl | 3, _ => rfl | 4, _ => rfl | 5, _ => rfl | 6, _ => rfl | j + 7, hj => exact absurd hj (Nat.not_lt.mpr (Nat.le_add_left _ _))⟩
theorem wk_1114 : (.classLink RL 168 RX3 : Jvm.Cond) ∈ WS := WS_t5 96 (by eq_refl) (by eq_refl)
theorem wk_1115 : (.instantiable RX3 7 : Jvm.Cond) ∈ WS := WS_t5 97 (by eq_refl) (by eq_refl)
theorem vN_RL_168 : vNew RL 168 7 [.int 0, .null, .null, .null, .int 0, .int 0, .int 0] := ⟨RX3, TX3, tyX3, rfl, iW_7, tyX3_ok, wk_1114, wk_1115, wk_60, fun j hj => by match j, hj with | 0, _ => rfl | 1, _ => rfl | 2, _ => rfl | 3, _ => rfl | 4, _ => rfl | 5, _ => rfl | 6, _ => rfl | j + 7, hj => exact absurd hj (Nat.not_lt.mpr (Nat.le_add_left _ _))⟩
theorem wk_332 : (.classLink RL 14 RX2 : Jvm.Cond) ∈ WS := WS_t2 34 (by eq_refl) (by eq_refl)
theorem wk_333 : (.instantiable RX2 2 : Jvm.Cond) ∈ WS := WS_t2 35 (by eq_refl) (by eq_refl)
theorem wk_68 : (.initialized RX2 : Jvm.Cond) ∈ WS := WS_t1 10 (by eq_refl) (by eq_refl)
theorem vN_RL_14 : vNew RL 14 6 [.long 0, .null] := ⟨RX2, TX2, tyX2, rfl, iW_6, tyX2_ok, wk_332, wk_333, wk_68, fun j hj => by match j, hj with | 0, _ => rfl | 1, _ => rfl | j + 2, hj => exact absurd hj (Nat.not_lt.mpr (Nat.le_add_left _ _))⟩
theorem wk_92 : (.code yX1_init cX1_init 1 (none) : Jvm.Cond) ∈ WS := WS_t1 34 (by eq_refl) (by eq_refl)
theorem wk_90 : (.methodLink RL 167 yX1_init : Jvm.Cond) ∈ WS := WS_t1 32 (by eq_refl) (by eq_refl)
theorem wk_91 : (.instanceMethod yX1_init : Jvm.Cond) ∈ WS := WS_t1 33 (by eq_refl) (by eq_refl)
theorem wk_1118 : (.code yX3_init cX3_init 2 (none) : Jvm.Cond) ∈ WS := WS_t5 100 (by eq_refl) (by eq_refl)
theorem wk_1116 : (.methodLink RL 170 yX3_init : Jvm.Cond) ∈ WS := WS_t5 98 (by eq_refl) (by eq_refl)
theorem wk_1117 : (.instanceMethod yX3_init : Jvm.Cond) ∈ WS := WS_t5 99 (by eq_refl) (by eq_refl)
theorem wk_336 : (.code yX2_init cX2_init 1 (none) : Jvm.Cond) ∈ WS := WS_t2 38 (by eq_refl) (by eq_refl)
theorem wk_335 : (.instanceMethod yX2_init : Jvm.Cond) ∈ WS := WS_t2 37 (by eq_refl) (by eq_refl)
theorem wk_347 : (.codeWith yL_set cL_set 6 (some .int) [(0, 13, 16, 19)] : Jvm.Cond) ∈ WS := WS_t2 49 (by eq_refl) (by eq_refl)
theorem wk_58 : (.initialized RL : Jvm.Cond) ∈ WS := WS_t1 0 (by eq_refl) (by eq_refl)
theorem wk_345 : (.methodLink RL 172 yL_set : Jvm.Cond) ∈ WS := WS_t2 47 (by eq_refl) (by eq_refl)
theorem wk_346 : (.static yL_set : Jvm.Cond) ∈ WS := WS_t2 48 (by eq_refl) (by eq_refl)
theorem wk_1217 : (.code yX3_set cX3_set 5 (some .int) : Jvm.Cond) ∈ WS := WS_t5 199 (by eq_refl) (by eq_refl)
theorem wk_1214 : (.methodLink RL 177 yX3_set : Jvm.Cond) ∈ WS := WS_t5 196 (by eq_refl) (by eq_refl)
theorem wk_1215 : (.instanceMethod yX3_set : Jvm.Cond) ∈ WS := WS_t5 197 (by eq_refl) (by eq_refl)
theorem wk_1216 : (.selects RX3 yX3_set yX3_set : Jvm.Cond) ∈ WS := WS_t5 198 (by eq_refl) (by eq_refl)
theorem wk_427 : (.codeWith yL_setSmall cL_setSmall 5 (some .int) [(0, 11, 14, 19)] : Jvm.Cond) ∈ WS := WS_t2 129 (by eq_refl) (by eq_refl)
theorem wk_425 : (.methodLink RL 178 yL_setSmall : Jvm.Cond) ∈ WS := WS_t2 127 (by eq_refl) (by eq_refl)
theorem wk_426 : (.static yL_setSmall : Jvm.Cond) ∈ WS := WS_t2 128 (by eq_refl) (by eq_refl)
theorem wk_1239 : (.code yX3_setSmall cX3_setSmall 4 (some .int) : Jvm.Cond) ∈ WS := WS_t5 221 (by eq_refl) (by eq_refl)
theorem wk_1236 : (.methodLink RL 181 yX3_setSmall : Jvm.Cond) ∈ WS := WS_t5 218 (by eq_refl) (by eq_refl)
theorem wk_1237 : (.instanceMethod yX3_setSmall : Jvm.Cond) ∈ WS := WS_t5 219 (by eq_refl) (by eq_refl)
theorem wk_1238 : (.selects RX3 yX3_setSmall yX3_setSmall : Jvm.Cond) ∈ WS := WS_t5 220 (by eq_refl) (by eq_refl)
theorem wk_434 : (.codeWith yL_setEnd cL_setEnd 5 (some .int) [(0, 11, 14, 19), (0, 11, 18, 28)] : Jvm.Cond) ∈ WS := WS_t2 136 (by eq_refl) (by eq_refl)
theorem wk_432 : (.methodLink RL 182 yL_setEnd : Jvm.Cond) ∈ WS := WS_t2 134 (by eq_refl) (by eq_refl)
theorem wk_433 : (.static yL_setEnd : Jvm.Cond) ∈ WS := WS_t2 135 (by eq_refl) (by eq_refl)
theorem wk_1247 : (.code yX3_setEnd cX3_setEnd 4 (some .int) : Jvm.Cond) ∈ WS := WS_t5 229 (by eq_refl) (by eq_refl)
theorem wk_1244 : (.methodLink RL 184 yX3_setEnd : Jvm.Cond) ∈ WS := WS_t5 226 (by eq_refl) (by eq_refl)
theorem wk_1245 : (.instanceMethod yX3_setEnd : Jvm.Cond) ∈ WS := WS_t5 227 (by eq_refl) (by eq_refl)
theorem wk_1246 : (.selects RX3 yX3_setEnd yX3_setEnd : Jvm.Cond) ∈ WS := WS_t5 228 (by eq_refl) (by eq_refl)
theorem wk_470 : (.codeWith yL_move cL_move 5 (some .int) [(0, 11, 14, 19)] : Jvm.Cond) ∈ WS := WS_t2 172 (by eq_refl) (by eq_refl)
theorem wk_468 : (.methodLink RL 185 yL_move : Jvm.Cond) ∈ WS := WS_t2 170 (by eq_refl) (by eq_refl)
theorem wk_469 : (.static yL_move : Jvm.Cond) ∈ WS := WS_t2 171 (by eq_refl) (by eq_refl)
theorem wk_1258 : (.code yX3_move cX3_move 3 (some .int) : Jvm.Cond) ∈ WS := WS_t6 0 (by eq_refl) (by eq_refl)
theorem wk_1255 : (.methodLink RL 187 yX3_move : Jvm.Cond) ∈ WS := WS_t5 237 (by eq_refl) (by eq_refl)
theorem wk_1256 : (.instanceMethod yX3_move : Jvm.Cond) ∈ WS := WS_t5 238 (by eq_refl) (by eq_refl)
theorem wk_1257 : (.selects RX3 yX3_move yX3_move : Jvm.Cond) ∈ WS := WS_t5 239 (by eq_refl) (by eq_refl)
theorem wk_477 : (.codeWith yL_copy cL_copy 5 (some .int) [(0, 11, 14, 19)] : Jvm.Cond) ∈ WS := WS_t2 179 (by eq_refl) (by eq_refl)
theorem wk_475 : (.methodLink RL 188 yL_copy : Jvm.Cond) ∈ WS := WS_t2 177 (by eq_refl) (by eq_refl)
theorem wk_476 : (.static yL_copy : Jvm.Cond) ∈ WS := WS_t2 178 (by eq_refl) (by eq_refl)
theorem wk_1262 : (.code yX3_copy cX3_copy 3 (some .int) : Jvm.Cond) ∈ WS := WS_t6 4 (by eq_refl) (by eq_refl)
theorem wk_1259 : (.methodLink RL 190 yX3_copy : Jvm.Cond) ∈ WS := WS_t6 1 (by eq_refl) (by eq_refl)
theorem wk_1260 : (.instanceMethod yX3_copy : Jvm.Cond) ∈ WS := WS_t6 2 (by eq_refl) (by eq_refl)
theorem wk_1261 : (.selects RX3 yX3_copy yX3_copy : Jvm.Cond) ∈ WS := WS_t6 3 (by eq_refl) (by eq_refl)
theorem wk_484 : (.codeWith yL_ofNumber cL_ofNumber 5 (some .int) [(0, 11, 14, 19)] : Jvm.Cond) ∈ WS := WS_t2 186 (by eq_refl) (by eq_refl)
theorem wk_482 : (.methodLink RL 191 yL_ofNumber : Jvm.Cond) ∈ WS := WS_t2 184 (by eq_refl) (by eq_refl)
theorem wk_483 : (.static yL_ofNumber : Jvm.Cond) ∈ WS := WS_t2 185 (by eq_refl) (by eq_refl)
theorem wk_1266 : (.code yX3_ofNumber cX3_ofNumber 3 (some .int) : Jvm.Cond) ∈ WS := WS_t6 8 (by eq_refl) (by eq_refl)
theorem wk_1263 : (.methodLink RL 194 yX3_ofNumber : Jvm.Cond) ∈ WS := WS_t6 5 (by eq_refl) (by eq_refl)
theorem wk_1264 : (.instanceMethod yX3_ofNumber : Jvm.Cond) ∈ WS := WS_t6 6 (by eq_refl) (by eq_refl)
theorem wk_1265 : (.selects RX3 yX3_ofNumber yX3_ofNumber : Jvm.Cond) ∈ WS := WS_t6 7 (by eq_refl) (by eq_refl)
theorem wk_494 : (.codeWith yL_numberText cL_numberText 4 (some .int) [(0, 9, 12, 19)] : Jvm.Cond) ∈ WS := WS_t2 196 (by eq_refl) (by eq_refl)
theorem wk_492 : (.methodLink RL 195 yL_numberText : Jvm.Cond) ∈ WS := WS_t2 194 (by eq_refl) (by eq_refl)
theorem wk_493 : (.static yL_numberText : Jvm.Cond) ∈ WS := WS_t2 195 (by eq_refl) (by eq_refl)
theorem wk_1270 : (.code yX3_numberText cX3_numberText 2 (some (.object "java/lang/String")) : Jvm.Cond) ∈ WS := WS_t6 12 (by eq_refl) (by eq_refl)
theorem wk_1267 : (.methodLink RL 198 yX3_numberText : Jvm.Cond) ∈ WS := WS_t6 9 (by eq_refl) (by eq_refl)
theorem wk_1268 : (.instanceMethod yX3_numberText : Jvm.Cond) ∈ WS := WS_t6 10 (by eq_refl) (by eq_refl)
theorem wk_1269 : (.selects RX3 yX3_numberText yX3_numberText : Jvm.Cond) ∈ WS := WS_t6 11 (by eq_refl) (by eq_refl)
theorem wk_804 : (.codeWith yL_order cL_order 5 (some .int) [(0, 11, 14, 19)] : Jvm.Cond) ∈ WS := WS_t4 26 (by eq_refl) (by eq_refl)
theorem wk_802 : (.methodLink RL 199 yL_order : Jvm.Cond) ∈ WS := WS_t4 24 (by eq_refl) (by eq_refl)
theorem wk_803 : (.static yL_order : Jvm.Cond) ∈ WS := WS_t4 25 (by eq_refl) (by eq_refl)
theorem wk_1306 : (.code yX3_order cX3_order 3 (some .int) : Jvm.Cond) ∈ WS := WS_t6 48 (by eq_refl) (by eq_refl)
theorem wk_1303 : (.methodLink RL 201 yX3_order : Jvm.Cond) ∈ WS := WS_t6 45 (by eq_refl) (by eq_refl)
theorem wk_1304 : (.instanceMethod yX3_order : Jvm.Cond) ∈ WS := WS_t6 46 (by eq_refl) (by eq_refl)
theorem wk_1305 : (.selects RX3 yX3_order yX3_order : Jvm.Cond) ∈ WS := WS_t6 47 (by eq_refl) (by eq_refl)
theorem wk_811 : (.codeWith yL_two cL_two 6 (some .int) [(0, 13, 16, 19)] : Jvm.Cond) ∈ WS := WS_t4 33 (by eq_refl) (by eq_refl)
theorem wk_809 : (.methodLink RL 202 yL_two : Jvm.Cond) ∈ WS := WS_t4 31 (by eq_refl) (by eq_refl)
theorem wk_810 : (.static yL_two : Jvm.Cond) ∈ WS := WS_t4 32 (by eq_refl) (by eq_refl)
theorem wk_1313 : (.code yX3_two cX3_two 4 (some .int) : Jvm.Cond) ∈ WS := WS_t6 55 (by eq_refl) (by eq_refl)
theorem wk_1310 : (.methodLink RL 204 yX3_two : Jvm.Cond) ∈ WS := WS_t6 52 (by eq_refl) (by eq_refl)
theorem wk_1311 : (.instanceMethod yX3_two : Jvm.Cond) ∈ WS := WS_t6 53 (by eq_refl) (by eq_refl)
theorem wk_1312 : (.selects RX3 yX3_two yX3_two : Jvm.Cond) ∈ WS := WS_t6 54 (by eq_refl) (by eq_refl)
theorem wk_830 : (.codeWith yL_three cL_three 7 (some .int) [(0, 15, 18, 19)] : Jvm.Cond) ∈ WS := WS_t4 52 (by eq_refl) (by eq_refl)
theorem wk_828 : (.methodLink RL 205 yL_three : Jvm.Cond) ∈ WS := WS_t4 50 (by eq_refl) (by eq_refl)
theorem wk_829 : (.static yL_three : Jvm.Cond) ∈ WS := WS_t4 51 (by eq_refl) (by eq_refl)
theorem wk_1343 : (.code yX3_three cX3_three 5 (some .int) : Jvm.Cond) ∈ WS := WS_t6 85 (by eq_refl) (by eq_refl)
theorem wk_1340 : (.methodLink RL 208 yX3_three : Jvm.Cond) ∈ WS := WS_t6 82 (by eq_refl) (by eq_refl)
theorem wk_1341 : (.instanceMethod yX3_three : Jvm.Cond) ∈ WS := WS_t6 83 (by eq_refl) (by eq_refl)
theorem wk_1342 : (.selects RX3 yX3_three yX3_three : Jvm.Cond) ∈ WS := WS_t6 84 (by eq_refl) (by eq_refl)
theorem wk_840 : (.codeWith yL_four cL_four 8 (some .int) [(0, 17, 20, 19)] : Jvm.Cond) ∈ WS := WS_t4 62 (by eq_refl) (by eq_refl)
theorem wk_838 : (.methodLink RL 209 yL_four : Jvm.Cond) ∈ WS := WS_t4 60 (by eq_refl) (by eq_refl)
theorem wk_839 : (.static yL_four : Jvm.Cond) ∈ WS := WS_t4 61 (by eq_refl) (by eq_refl)
theorem wk_1347 : (.code yX3_four cX3_four 6 (some .int) : Jvm.Cond) ∈ WS := WS_t6 89 (by eq_refl) (by eq_refl)
theorem wk_1344 : (.methodLink RL 212 yX3_four : Jvm.Cond) ∈ WS := WS_t6 86 (by eq_refl) (by eq_refl)
theorem wk_1345 : (.instanceMethod yX3_four : Jvm.Cond) ∈ WS := WS_t6 87 (by eq_refl) (by eq_refl)
theorem wk_1346 : (.selects RX3 yX3_four yX3_four : Jvm.Cond) ∈ WS := WS_t6 88 (by eq_refl) (by eq_refl)
theorem wk_847 : (.codeWith yL_twoSmall cL_twoSmall 6 (some .int) [(0, 13, 16, 19)] : Jvm.Cond) ∈ WS := WS_t4 69 (by eq_refl) (by eq_refl)
theorem wk_845 : (.methodLink RL 213 yL_twoSmall : Jvm.Cond) ∈ WS := WS_t4 67 (by eq_refl) (by eq_refl)
theorem wk_846 : (.static yL_twoSmall : Jvm.Cond) ∈ WS := WS_t4 68 (by eq_refl) (by eq_refl)
theorem wk_1351 : (.code yX3_twoSmall cX3_twoSmall 4 (some .int) : Jvm.Cond) ∈ WS := WS_t6 93 (by eq_refl) (by eq_refl)
theorem wk_1348 : (.methodLink RL 215 yX3_twoSmall : Jvm.Cond) ∈ WS := WS_t6 90 (by eq_refl) (by eq_refl)
theorem wk_1349 : (.instanceMethod yX3_twoSmall : Jvm.Cond) ∈ WS := WS_t6 91 (by eq_refl) (by eq_refl)
theorem wk_1350 : (.selects RX3 yX3_twoSmall yX3_twoSmall : Jvm.Cond) ∈ WS := WS_t6 92 (by eq_refl) (by eq_refl)
theorem wk_854 : (.codeWith yL_threeSmall cL_threeSmall 7 (some .int) [(0, 15, 18, 19)] : Jvm.Cond) ∈ WS := WS_t4 76 (by eq_refl) (by eq_refl)
theorem wk_852 : (.methodLink RL 216 yL_threeSmall : Jvm.Cond) ∈ WS := WS_t4 74 (by eq_refl) (by eq_refl)
theorem wk_853 : (.static yL_threeSmall : Jvm.Cond) ∈ WS := WS_t4 75 (by eq_refl) (by eq_refl)
theorem wk_1355 : (.code yX3_threeSmall cX3_threeSmall 5 (some .int) : Jvm.Cond) ∈ WS := WS_t6 97 (by eq_refl) (by eq_refl)
theorem wk_1352 : (.methodLink RL 218 yX3_threeSmall : Jvm.Cond) ∈ WS := WS_t6 94 (by eq_refl) (by eq_refl)
theorem wk_1353 : (.instanceMethod yX3_threeSmall : Jvm.Cond) ∈ WS := WS_t6 95 (by eq_refl) (by eq_refl)
theorem wk_1354 : (.selects RX3 yX3_threeSmall yX3_threeSmall : Jvm.Cond) ∈ WS := WS_t6 96 (by eq_refl) (by eq_refl)
theorem wk_861 : (.codeWith yL_fourSmall cL_fourSmall 8 (some .int) [(0, 17, 20, 19)] : Jvm.Cond) ∈ WS := WS_t4 83 (by eq_refl) (by eq_refl)
theorem wk_859 : (.methodLink RL 219 yL_fourSmall : Jvm.Cond) ∈ WS := WS_t4 81 (by eq_refl) (by eq_refl)
theorem wk_860 : (.static yL_fourSmall : Jvm.Cond) ∈ WS := WS_t4 82 (by eq_refl) (by eq_refl)
theorem wk_1359 : (.code yX3_fourSmall cX3_fourSmall 6 (some .int) : Jvm.Cond) ∈ WS := WS_t6 101 (by eq_refl) (by eq_refl)
theorem wk_1356 : (.methodLink RL 221 yX3_fourSmall : Jvm.Cond) ∈ WS := WS_t6 98 (by eq_refl) (by eq_refl)
theorem wk_1357 : (.instanceMethod yX3_fourSmall : Jvm.Cond) ∈ WS := WS_t6 99 (by eq_refl) (by eq_refl)
theorem wk_1358 : (.selects RX3 yX3_fourSmall yX3_fourSmall : Jvm.Cond) ∈ WS := WS_t6 100 (by eq_refl) (by eq_refl)
theorem wk_868 : (.codeWith yL_again cL_again 5 (some .int) [(0, 11, 14, 19), (0, 11, 18, 74)] : Jvm.Cond) ∈ WS := WS_t4 90 (by eq_refl) (by eq_refl)
theorem wk_866 : (.methodLink RL 222 yL_again : Jvm.Cond) ∈ WS := WS_t4 88 (by eq_refl) (by eq_refl)
theorem wk_867 : (.static yL_again : Jvm.Cond) ∈ WS := WS_t4 89 (by eq_refl) (by eq_refl)
theorem wk_1363 : (.code yX3_again cX3_again 10 (some .int) : Jvm.Cond) ∈ WS := WS_t6 105 (by eq_refl) (by eq_refl)
theorem wk_1360 : (.methodLink RL 224 yX3_again : Jvm.Cond) ∈ WS := WS_t6 102 (by eq_refl) (by eq_refl)
theorem wk_1361 : (.instanceMethod yX3_again : Jvm.Cond) ∈ WS := WS_t6 103 (by eq_refl) (by eq_refl)
theorem wk_1362 : (.selects RX3 yX3_again yX3_again : Jvm.Cond) ∈ WS := WS_t6 104 (by eq_refl) (by eq_refl)
theorem wk_902 : (.codeWith yL_same cL_same 5 (some .int) [(0, 11, 14, 19), (0, 11, 18, 74)] : Jvm.Cond) ∈ WS := WS_t4 124 (by eq_refl) (by eq_refl)
theorem wk_900 : (.methodLink RL 225 yL_same : Jvm.Cond) ∈ WS := WS_t4 122 (by eq_refl) (by eq_refl)
theorem wk_901 : (.static yL_same : Jvm.Cond) ∈ WS := WS_t4 123 (by eq_refl) (by eq_refl)
theorem wk_1380 : (.code yX3_same_ cX3_same_ 4 (some .int) : Jvm.Cond) ∈ WS := WS_t6 122 (by eq_refl) (by eq_refl)
theorem wk_1377 : (.methodLink RL 227 yX3_same_ : Jvm.Cond) ∈ WS := WS_t6 119 (by eq_refl) (by eq_refl)
theorem wk_1378 : (.instanceMethod yX3_same_ : Jvm.Cond) ∈ WS := WS_t6 120 (by eq_refl) (by eq_refl)
theorem wk_1379 : (.selects RX3 yX3_same_ yX3_same_ : Jvm.Cond) ∈ WS := WS_t6 121 (by eq_refl) (by eq_refl)
theorem wk_909 : (.codeWith yL_outer cL_outer 5 (some .int) [(0, 11, 14, 19), (0, 11, 18, 74)] : Jvm.Cond) ∈ WS := WS_t4 131 (by eq_refl) (by eq_refl)
theorem wk_907 : (.methodLink RL 228 yL_outer : Jvm.Cond) ∈ WS := WS_t4 129 (by eq_refl) (by eq_refl)
theorem wk_908 : (.static yL_outer : Jvm.Cond) ∈ WS := WS_t4 130 (by eq_refl) (by eq_refl)
theorem wk_1387 : (.code yX3_outer cX3_outer 4 (some .int) : Jvm.Cond) ∈ WS := WS_t6 129 (by eq_refl) (by eq_refl)
theorem wk_1384 : (.methodLink RL 230 yX3_outer : Jvm.Cond) ∈ WS := WS_t6 126 (by eq_refl) (by eq_refl)
theorem wk_1385 : (.instanceMethod yX3_outer : Jvm.Cond) ∈ WS := WS_t6 127 (by eq_refl) (by eq_refl)
theorem wk_1386 : (.selects RX3 yX3_outer yX3_outer : Jvm.Cond) ∈ WS := WS_t6 128 (by eq_refl) (by eq_refl)
theorem wk_916 : (.codeWith yL_inner cL_inner 5 (some .int) [(0, 11, 14, 19), (0, 11, 18, 74)] : Jvm.Cond) ∈ WS := WS_t4 138 (by eq_refl) (by eq_refl)
theorem wk_914 : (.methodLink RL 231 yL_inner : Jvm.Cond) ∈ WS := WS_t4 136 (by eq_refl) (by eq_refl)
theorem wk_915 : (.static yL_inner : Jvm.Cond) ∈ WS := WS_t4 137 (by eq_refl) (by eq_refl)
theorem wk_1394 : (.code yX3_inner cX3_inner 4 (some .int) : Jvm.Cond) ∈ WS := WS_t6 136 (by eq_refl) (by eq_refl)
theorem wk_1391 : (.methodLink RL 233 yX3_inner : Jvm.Cond) ∈ WS := WS_t6 133 (by eq_refl) (by eq_refl)
theorem wk_1392 : (.instanceMethod yX3_inner : Jvm.Cond) ∈ WS := WS_t6 134 (by eq_refl) (by eq_refl)
theorem wk_1393 : (.selects RX3 yX3_inner yX3_inner : Jvm.Cond) ∈ WS := WS_t6 135 (by eq_refl) (by eq_refl)
theorem wk_923 : (.codeWith yL_span cL_span 6 (some .int) [(0, 13, 16, 19), (0, 13, 20, 74)] : Jvm.Cond) ∈ WS := WS_t4 145 (by eq_refl) (by eq_refl)
theorem wk_921 : (.methodLink RL 234 yL_span : Jvm.Cond) ∈ WS := WS_t4 143 (by eq_refl) (by eq_refl)
theorem wk_922 : (.static yL_span : Jvm.Cond) ∈ WS := WS_t4 144 (by eq_refl) (by eq_refl)
theorem wk_1398 : (.code yX3_span cX3_span 4 (some .int) : Jvm.Cond) ∈ WS := WS_t6 140 (by eq_refl) (by eq_refl)
theorem wk_1395 : (.methodLink RL 236 yX3_span : Jvm.Cond) ∈ WS := WS_t6 137 (by eq_refl) (by eq_refl)
theorem wk_1396 : (.instanceMethod yX3_span : Jvm.Cond) ∈ WS := WS_t6 138 (by eq_refl) (by eq_refl)
theorem wk_1397 : (.selects RX3 yX3_span yX3_span : Jvm.Cond) ∈ WS := WS_t6 139 (by eq_refl) (by eq_refl)
theorem wk_930 : (.codeWith yL_shift cL_shift 5 (some .int) [(0, 11, 14, 19), (0, 11, 18, 74)] : Jvm.Cond) ∈ WS := WS_t4 152 (by eq_refl) (by eq_refl)
theorem wk_928 : (.methodLink RL 237 yL_shift : Jvm.Cond) ∈ WS := WS_t4 150 (by eq_refl) (by eq_refl)
theorem wk_929 : (.static yL_shift : Jvm.Cond) ∈ WS := WS_t4 151 (by eq_refl) (by eq_refl)
theorem wk_1402 : (.code yX3_shift cX3_shift 4 (some .int) : Jvm.Cond) ∈ WS := WS_t6 144 (by eq_refl) (by eq_refl)
theorem wk_1399 : (.methodLink RL 239 yX3_shift : Jvm.Cond) ∈ WS := WS_t6 141 (by eq_refl) (by eq_refl)
theorem wk_1400 : (.instanceMethod yX3_shift : Jvm.Cond) ∈ WS := WS_t6 142 (by eq_refl) (by eq_refl)
theorem wk_1401 : (.selects RX3 yX3_shift yX3_shift : Jvm.Cond) ∈ WS := WS_t6 143 (by eq_refl) (by eq_refl)
theorem wk_937 : (.codeWith yL_drop cL_drop 4 (some .int) [(0, 10, 13, 19)] : Jvm.Cond) ∈ WS := WS_t4 159 (by eq_refl) (by eq_refl)
theorem wk_935 : (.methodLink RL 240 yL_drop : Jvm.Cond) ∈ WS := WS_t4 157 (by eq_refl) (by eq_refl)
theorem wk_936 : (.static yL_drop : Jvm.Cond) ∈ WS := WS_t4 158 (by eq_refl) (by eq_refl)
theorem wk_1410 : (.code yX3_drop cX3_drop 3 (some .int) : Jvm.Cond) ∈ WS := WS_t6 152 (by eq_refl) (by eq_refl)
theorem wk_1407 : (.methodLink RL 242 yX3_drop : Jvm.Cond) ∈ WS := WS_t6 149 (by eq_refl) (by eq_refl)
theorem wk_1408 : (.instanceMethod yX3_drop : Jvm.Cond) ∈ WS := WS_t6 150 (by eq_refl) (by eq_refl)
theorem wk_1409 : (.selects RX3 yX3_drop yX3_drop : Jvm.Cond) ∈ WS := WS_t6 151 (by eq_refl) (by eq_refl)
theorem wk_944 : (.codeWith yL_isThere cL_isThere 4 (some .int) [(0, 17, 20, 19)] : Jvm.Cond) ∈ WS := WS_t4 166 (by eq_refl) (by eq_refl)
theorem wk_942 : (.methodLink RL 243 yL_isThere : Jvm.Cond) ∈ WS := WS_t4 164 (by eq_refl) (by eq_refl)
theorem wk_943 : (.static yL_isThere : Jvm.Cond) ∈ WS := WS_t4 165 (by eq_refl) (by eq_refl)
theorem wk_1414 : (.code yX3_isThere cX3_isThere 2 (some .boolean) : Jvm.Cond) ∈ WS := WS_t6 156 (by eq_refl) (by eq_refl)
theorem wk_1411 : (.methodLink RL 245 yX3_isThere : Jvm.Cond) ∈ WS := WS_t6 153 (by eq_refl) (by eq_refl)
theorem wk_1412 : (.instanceMethod yX3_isThere : Jvm.Cond) ∈ WS := WS_t6 154 (by eq_refl) (by eq_refl)
theorem wk_1413 : (.selects RX3 yX3_isThere yX3_isThere : Jvm.Cond) ∈ WS := WS_t6 155 (by eq_refl) (by eq_refl)
theorem wk_951 : (.codeWith yL_isFixed cL_isFixed 4 (some .int) [(0, 17, 20, 19), (0, 17, 23, 74)] : Jvm.Cond) ∈ WS := WS_t4 173 (by eq_refl) (by eq_refl)
theorem wk_949 : (.methodLink RL 246 yL_isFixed : Jvm.Cond) ∈ WS := WS_t4 171 (by eq_refl) (by eq_refl)
theorem wk_950 : (.static yL_isFixed : Jvm.Cond) ∈ WS := WS_t4 172 (by eq_refl) (by eq_refl)
theorem wk_1418 : (.code yX3_isFixed cX3_isFixed 2 (some .boolean) : Jvm.Cond) ∈ WS := WS_t6 160 (by eq_refl) (by eq_refl)
theorem wk_1415 : (.methodLink RL 248 yX3_isFixed : Jvm.Cond) ∈ WS := WS_t6 157 (by eq_refl) (by eq_refl)
theorem wk_1416 : (.instanceMethod yX3_isFixed : Jvm.Cond) ∈ WS := WS_t6 158 (by eq_refl) (by eq_refl)
theorem wk_1417 : (.selects RX3 yX3_isFixed yX3_isFixed : Jvm.Cond) ∈ WS := WS_t6 159 (by eq_refl) (by eq_refl)
theorem wk_958 : (.codeWith yL_isSmall cL_isSmall 4 (some .int) [(0, 17, 20, 19), (0, 17, 23, 74)] : Jvm.Cond) ∈ WS := WS_t4 180 (by eq_refl) (by eq_refl)
theorem wk_956 : (.methodLink RL 249 yL_isSmall : Jvm.Cond) ∈ WS := WS_t4 178 (by eq_refl) (by eq_refl)
theorem wk_957 : (.static yL_isSmall : Jvm.Cond) ∈ WS := WS_t4 179 (by eq_refl) (by eq_refl)
theorem wk_1422 : (.code yX3_isSmall cX3_isSmall 2 (some .boolean) : Jvm.Cond) ∈ WS := WS_t6 164 (by eq_refl) (by eq_refl)
theorem wk_1419 : (.methodLink RL 251 yX3_isSmall : Jvm.Cond) ∈ WS := WS_t6 161 (by eq_refl) (by eq_refl)
theorem wk_1420 : (.instanceMethod yX3_isSmall : Jvm.Cond) ∈ WS := WS_t6 162 (by eq_refl) (by eq_refl)
theorem wk_1421 : (.selects RX3 yX3_isSmall yX3_isSmall : Jvm.Cond) ∈ WS := WS_t6 163 (by eq_refl) (by eq_refl)
theorem wk_965 : (.codeWith yL_end cL_end 6 (some .int) [(0, 13, 16, 19), (0, 13, 20, 28), (0, 13, 24, 74)] : Jvm.Cond) ∈ WS := WS_t4 187 (by eq_refl) (by eq_refl)
theorem wk_963 : (.methodLink RL 252 yL_end : Jvm.Cond) ∈ WS := WS_t4 185 (by eq_refl) (by eq_refl)
theorem wk_964 : (.static yL_end : Jvm.Cond) ∈ WS := WS_t4 186 (by eq_refl) (by eq_refl)
theorem wk_1429 : (.code yX3_end cX3_end 4 (some .int) : Jvm.Cond) ∈ WS := WS_t6 171 (by eq_refl) (by eq_refl)
theorem wk_1426 : (.methodLink RL 255 yX3_end : Jvm.Cond) ∈ WS := WS_t6 168 (by eq_refl) (by eq_refl)
theorem wk_1427 : (.instanceMethod yX3_end : Jvm.Cond) ∈ WS := WS_t6 169 (by eq_refl) (by eq_refl)
theorem wk_1428 : (.selects RX3 yX3_end yX3_end : Jvm.Cond) ∈ WS := WS_t6 170 (by eq_refl) (by eq_refl)
theorem wk_972 : (.codeWith yL_take cL_take 6 (some .int) [(0, 13, 16, 19), (0, 13, 20, 28), (0, 13, 24, 74)] : Jvm.Cond) ∈ WS := WS_t4 194 (by eq_refl) (by eq_refl)
theorem wk_970 : (.methodLink RL 256 yL_take : Jvm.Cond) ∈ WS := WS_t4 192 (by eq_refl) (by eq_refl)
theorem wk_971 : (.static yL_take : Jvm.Cond) ∈ WS := WS_t4 193 (by eq_refl) (by eq_refl)
theorem wk_1440 : (.code yX3_take cX3_take 4 (some .int) : Jvm.Cond) ∈ WS := WS_t6 182 (by eq_refl) (by eq_refl)
theorem wk_1437 : (.methodLink RL 258 yX3_take : Jvm.Cond) ∈ WS := WS_t6 179 (by eq_refl) (by eq_refl)
theorem wk_1438 : (.instanceMethod yX3_take : Jvm.Cond) ∈ WS := WS_t6 180 (by eq_refl) (by eq_refl)
theorem wk_1439 : (.selects RX3 yX3_take yX3_take : Jvm.Cond) ∈ WS := WS_t6 181 (by eq_refl) (by eq_refl)
theorem wk_979 : (.codeWith yL_cardText cL_cardText 4 (some .int) [(0, 9, 12, 19)] : Jvm.Cond) ∈ WS := WS_t4 201 (by eq_refl) (by eq_refl)
theorem wk_977 : (.methodLink RL 259 yL_cardText : Jvm.Cond) ∈ WS := WS_t4 199 (by eq_refl) (by eq_refl)
theorem wk_978 : (.static yL_cardText : Jvm.Cond) ∈ WS := WS_t4 200 (by eq_refl) (by eq_refl)
theorem wk_1444 : (.code yX3_cardText cX3_cardText 3 (some (.object "java/lang/String")) : Jvm.Cond) ∈ WS := WS_t6 186 (by eq_refl) (by eq_refl)
theorem wk_1441 : (.methodLink RL 261 yX3_cardText : Jvm.Cond) ∈ WS := WS_t6 183 (by eq_refl) (by eq_refl)
theorem wk_1442 : (.instanceMethod yX3_cardText : Jvm.Cond) ∈ WS := WS_t6 184 (by eq_refl) (by eq_refl)
theorem wk_1443 : (.selects RX3 yX3_cardText yX3_cardText : Jvm.Cond) ∈ WS := WS_t6 185 (by eq_refl) (by eq_refl)
theorem wk_987 : (.codeWith yL_isValid cL_isValid 5 (some .int) [(0, 18, 21, 19), (0, 18, 25, 74)] : Jvm.Cond) ∈ WS := WS_t4 209 (by eq_refl) (by eq_refl)
theorem wk_985 : (.methodLink RL 262 yL_isValid : Jvm.Cond) ∈ WS := WS_t4 207 (by eq_refl) (by eq_refl)
theorem wk_986 : (.static yL_isValid : Jvm.Cond) ∈ WS := WS_t4 208 (by eq_refl) (by eq_refl)
theorem wk_1450 : (.code yX3_isValid cX3_isValid 3 (some .boolean) : Jvm.Cond) ∈ WS := WS_t6 192 (by eq_refl) (by eq_refl)
theorem wk_1447 : (.methodLink RL 264 yX3_isValid : Jvm.Cond) ∈ WS := WS_t6 189 (by eq_refl) (by eq_refl)
theorem wk_1448 : (.instanceMethod yX3_isValid : Jvm.Cond) ∈ WS := WS_t6 190 (by eq_refl) (by eq_refl)
theorem wk_1449 : (.selects RX3 yX3_isValid yX3_isValid : Jvm.Cond) ∈ WS := WS_t6 191 (by eq_refl) (by eq_refl)
theorem wk_994 : (.codeWith yL_isValidSmall cL_isValidSmall 5 (some .int) [(0, 18, 21, 19), (0, 18, 25, 74)] : Jvm.Cond) ∈ WS := WS_t4 216 (by eq_refl) (by eq_refl)
theorem wk_992 : (.methodLink RL 265 yL_isValidSmall : Jvm.Cond) ∈ WS := WS_t4 214 (by eq_refl) (by eq_refl)
theorem wk_993 : (.static yL_isValidSmall : Jvm.Cond) ∈ WS := WS_t4 215 (by eq_refl) (by eq_refl)
theorem wk_1461 : (.code yX3_isValidSmall cX3_isValidSmall 3 (some .boolean) : Jvm.Cond) ∈ WS := WS_t6 203 (by eq_refl) (by eq_refl)
theorem wk_1458 : (.methodLink RL 267 yX3_isValidSmall : Jvm.Cond) ∈ WS := WS_t6 200 (by eq_refl) (by eq_refl)
theorem wk_1459 : (.instanceMethod yX3_isValidSmall : Jvm.Cond) ∈ WS := WS_t6 201 (by eq_refl) (by eq_refl)
theorem wk_1460 : (.selects RX3 yX3_isValidSmall yX3_isValidSmall : Jvm.Cond) ∈ WS := WS_t6 202 (by eq_refl) (by eq_refl)
theorem wk_1001 : (.codeWith yL_whichValid cL_whichValid 5 (some .int) [(0, 11, 14, 19), (0, 11, 18, 74)] : Jvm.Cond) ∈ WS := WS_t4 223 (by eq_refl) (by eq_refl)
theorem wk_999 : (.methodLink RL 268 yL_whichValid : Jvm.Cond) ∈ WS := WS_t4 221 (by eq_refl) (by eq_refl)
theorem wk_1000 : (.static yL_whichValid : Jvm.Cond) ∈ WS := WS_t4 222 (by eq_refl) (by eq_refl)
theorem wk_1465 : (.code yX3_whichValid cX3_whichValid 3 (some .int) : Jvm.Cond) ∈ WS := WS_t6 207 (by eq_refl) (by eq_refl)
theorem wk_1462 : (.methodLink RL 270 yX3_whichValid : Jvm.Cond) ∈ WS := WS_t6 204 (by eq_refl) (by eq_refl)
theorem wk_1463 : (.instanceMethod yX3_whichValid : Jvm.Cond) ∈ WS := WS_t6 205 (by eq_refl) (by eq_refl)
theorem wk_1464 : (.selects RX3 yX3_whichValid yX3_whichValid : Jvm.Cond) ∈ WS := WS_t6 206 (by eq_refl) (by eq_refl)
theorem wk_1008 : (.codeWith yL_around cL_around 6 (some .int) [(0, 13, 16, 19), (0, 13, 20, 28), (0, 13, 24, 74)] : Jvm.Cond) ∈ WS := WS_t4 230 (by eq_refl) (by eq_refl)
theorem wk_1006 : (.methodLink RL 271 yL_around : Jvm.Cond) ∈ WS := WS_t4 228 (by eq_refl) (by eq_refl)
theorem wk_1007 : (.static yL_around : Jvm.Cond) ∈ WS := WS_t4 229 (by eq_refl) (by eq_refl)
theorem wk_1472 : (.code yX3_around cX3_around 4 (some .int) : Jvm.Cond) ∈ WS := WS_t6 214 (by eq_refl) (by eq_refl)
theorem wk_1469 : (.methodLink RL 273 yX3_around : Jvm.Cond) ∈ WS := WS_t6 211 (by eq_refl) (by eq_refl)
theorem wk_1470 : (.instanceMethod yX3_around : Jvm.Cond) ∈ WS := WS_t6 212 (by eq_refl) (by eq_refl)
theorem wk_1471 : (.selects RX3 yX3_around yX3_around : Jvm.Cond) ∈ WS := WS_t6 213 (by eq_refl) (by eq_refl)
theorem wk_1015 : (.codeWith yL_count cL_count 6 (some .int) [(0, 13, 16, 19), (0, 13, 20, 28), (0, 13, 24, 74)] : Jvm.Cond) ∈ WS := WS_t4 237 (by eq_refl) (by eq_refl)
theorem wk_1013 : (.methodLink RL 274 yL_count : Jvm.Cond) ∈ WS := WS_t4 235 (by eq_refl) (by eq_refl)
theorem wk_1014 : (.static yL_count : Jvm.Cond) ∈ WS := WS_t4 236 (by eq_refl) (by eq_refl)
theorem wk_1479 : (.code yX3_count cX3_count 6 (some .int) : Jvm.Cond) ∈ WS := WS_t6 221 (by eq_refl) (by eq_refl)
theorem wk_1476 : (.methodLink RL 276 yX3_count : Jvm.Cond) ∈ WS := WS_t6 218 (by eq_refl) (by eq_refl)
theorem wk_1477 : (.instanceMethod yX3_count : Jvm.Cond) ∈ WS := WS_t6 219 (by eq_refl) (by eq_refl)
theorem wk_1478 : (.selects RX3 yX3_count yX3_count : Jvm.Cond) ∈ WS := WS_t6 220 (by eq_refl) (by eq_refl)
theorem wk_1023 : (.codeWith yL_who cL_who 5 (some .int) [(0, 11, 14, 19), (0, 11, 18, 28)] : Jvm.Cond) ∈ WS := WS_t5 5 (by eq_refl) (by eq_refl)
theorem wk_1021 : (.methodLink RL 277 yL_who : Jvm.Cond) ∈ WS := WS_t5 3 (by eq_refl) (by eq_refl)
theorem wk_1022 : (.static yL_who : Jvm.Cond) ∈ WS := WS_t5 4 (by eq_refl) (by eq_refl)
theorem wk_1483 : (.code yX3_who cX3_who 3 (some .int) : Jvm.Cond) ∈ WS := WS_t6 225 (by eq_refl) (by eq_refl)
theorem wk_1480 : (.methodLink RL 279 yX3_who : Jvm.Cond) ∈ WS := WS_t6 222 (by eq_refl) (by eq_refl)
theorem wk_1481 : (.instanceMethod yX3_who : Jvm.Cond) ∈ WS := WS_t6 223 (by eq_refl) (by eq_refl)
theorem wk_1482 : (.selects RX3 yX3_who yX3_who : Jvm.Cond) ∈ WS := WS_t6 224 (by eq_refl) (by eq_refl)
theorem wk_1030 : (.codeWith yL_which cL_which 4 (some .int) [(0, 10, 13, 28)] : Jvm.Cond) ∈ WS := WS_t5 12 (by eq_refl) (by eq_refl)
theorem wk_1028 : (.methodLink RL 280 yL_which : Jvm.Cond) ∈ WS := WS_t5 10 (by eq_refl) (by eq_refl)
theorem wk_1029 : (.static yL_which : Jvm.Cond) ∈ WS := WS_t5 11 (by eq_refl) (by eq_refl)
theorem wk_1491 : (.code yX3_which cX3_which 2 (some .int) : Jvm.Cond) ∈ WS := WS_t6 233 (by eq_refl) (by eq_refl)
theorem wk_1488 : (.methodLink RL 282 yX3_which : Jvm.Cond) ∈ WS := WS_t6 230 (by eq_refl) (by eq_refl)
theorem wk_1489 : (.instanceMethod yX3_which : Jvm.Cond) ∈ WS := WS_t6 231 (by eq_refl) (by eq_refl)
theorem wk_1490 : (.selects RX3 yX3_which yX3_which : Jvm.Cond) ∈ WS := WS_t6 232 (by eq_refl) (by eq_refl)
theorem wk_1037 : (.codeWith yL_areSame cL_areSame 5 (some .int) [(0, 18, 21, 19), (0, 18, 25, 74)] : Jvm.Cond) ∈ WS := WS_t5 19 (by eq_refl) (by eq_refl)
theorem wk_1035 : (.methodLink RL 283 yL_areSame : Jvm.Cond) ∈ WS := WS_t5 17 (by eq_refl) (by eq_refl)
theorem wk_1036 : (.static yL_areSame : Jvm.Cond) ∈ WS := WS_t5 18 (by eq_refl) (by eq_refl)
theorem wk_1499 : (.code yX3_areSame cX3_areSame 3 (some .boolean) : Jvm.Cond) ∈ WS := WS_t7 1 (by eq_refl) (by eq_refl)
theorem wk_1496 : (.methodLink RL 285 yX3_areSame : Jvm.Cond) ∈ WS := WS_t6 238 (by eq_refl) (by eq_refl)
theorem wk_1497 : (.instanceMethod yX3_areSame : Jvm.Cond) ∈ WS := WS_t6 239 (by eq_refl) (by eq_refl)
theorem wk_1498 : (.selects RX3 yX3_areSame yX3_areSame : Jvm.Cond) ∈ WS := WS_t7 0 (by eq_refl) (by eq_refl)
theorem wk_1044 : (.codeWith yL_isSameAs cL_isSameAs 5 (some .int) [(0, 18, 21, 19), (0, 18, 25, 28), (0, 18, 29, 74)] : Jvm.Cond) ∈ WS := WS_t5 26 (by eq_refl) (by eq_refl)
theorem wk_1042 : (.methodLink RL 286 yL_isSameAs : Jvm.Cond) ∈ WS := WS_t5 24 (by eq_refl) (by eq_refl)
theorem wk_1043 : (.static yL_isSameAs : Jvm.Cond) ∈ WS := WS_t5 25 (by eq_refl) (by eq_refl)
theorem wk_1503 : (.code yX3_isSameAs cX3_isSameAs 3 (some .boolean) : Jvm.Cond) ∈ WS := WS_t7 5 (by eq_refl) (by eq_refl)
theorem wk_1500 : (.methodLink RL 288 yX3_isSameAs : Jvm.Cond) ∈ WS := WS_t7 2 (by eq_refl) (by eq_refl)
theorem wk_1501 : (.instanceMethod yX3_isSameAs : Jvm.Cond) ∈ WS := WS_t7 3 (by eq_refl) (by eq_refl)
theorem wk_1502 : (.selects RX3 yX3_isSameAs yX3_isSameAs : Jvm.Cond) ∈ WS := WS_t7 4 (by eq_refl) (by eq_refl)
theorem wk_1051 : (.codeWith yL_likes cL_likes 4 (some .int) [(0, 10, 13, 19), (0, 10, 16, 74)] : Jvm.Cond) ∈ WS := WS_t5 33 (by eq_refl) (by eq_refl)
theorem wk_1049 : (.methodLink RL 289 yL_likes : Jvm.Cond) ∈ WS := WS_t5 31 (by eq_refl) (by eq_refl)
theorem wk_1050 : (.static yL_likes : Jvm.Cond) ∈ WS := WS_t5 32 (by eq_refl) (by eq_refl)
theorem wk_1507 : (.code yX3_likes cX3_likes 2 (some .int) : Jvm.Cond) ∈ WS := WS_t7 9 (by eq_refl) (by eq_refl)
theorem wk_1504 : (.methodLink RL 291 yX3_likes : Jvm.Cond) ∈ WS := WS_t7 6 (by eq_refl) (by eq_refl)
theorem wk_1505 : (.instanceMethod yX3_likes : Jvm.Cond) ∈ WS := WS_t7 7 (by eq_refl) (by eq_refl)
theorem wk_1506 : (.selects RX3 yX3_likes yX3_likes : Jvm.Cond) ∈ WS := WS_t7 8 (by eq_refl) (by eq_refl)
theorem wk_1058 : (.codeWith yL_lay cL_lay 4 (some .int) [(0, 10, 13, 19), (0, 10, 16, 74)] : Jvm.Cond) ∈ WS := WS_t5 40 (by eq_refl) (by eq_refl)
theorem wk_1056 : (.methodLink RL 292 yL_lay : Jvm.Cond) ∈ WS := WS_t5 38 (by eq_refl) (by eq_refl)
theorem wk_1057 : (.static yL_lay : Jvm.Cond) ∈ WS := WS_t5 39 (by eq_refl) (by eq_refl)
theorem wk_1515 : (.code yX3_lay cX3_lay 2 (some .int) : Jvm.Cond) ∈ WS := WS_t7 17 (by eq_refl) (by eq_refl)
theorem wk_1512 : (.methodLink RL 294 yX3_lay : Jvm.Cond) ∈ WS := WS_t7 14 (by eq_refl) (by eq_refl)
theorem wk_1513 : (.instanceMethod yX3_lay : Jvm.Cond) ∈ WS := WS_t7 15 (by eq_refl) (by eq_refl)
theorem wk_1514 : (.selects RX3 yX3_lay yX3_lay : Jvm.Cond) ∈ WS := WS_t7 16 (by eq_refl) (by eq_refl)
theorem wk_1065 : (.codeWith yL_seek cL_seek 5 (some .int) [(0, 11, 14, 19), (0, 11, 18, 74)] : Jvm.Cond) ∈ WS := WS_t5 47 (by eq_refl) (by eq_refl)
theorem wk_1063 : (.methodLink RL 295 yL_seek : Jvm.Cond) ∈ WS := WS_t5 45 (by eq_refl) (by eq_refl)
theorem wk_1064 : (.static yL_seek : Jvm.Cond) ∈ WS := WS_t5 46 (by eq_refl) (by eq_refl)
theorem wk_1523 : (.code yX3_seek cX3_seek 3 (some .int) : Jvm.Cond) ∈ WS := WS_t7 25 (by eq_refl) (by eq_refl)
theorem wk_1520 : (.methodLink RL 297 yX3_seek : Jvm.Cond) ∈ WS := WS_t7 22 (by eq_refl) (by eq_refl)
theorem wk_1521 : (.instanceMethod yX3_seek : Jvm.Cond) ∈ WS := WS_t7 23 (by eq_refl) (by eq_refl)
theorem wk_1522 : (.selects RX3 yX3_seek yX3_seek : Jvm.Cond) ∈ WS := WS_t7 24 (by eq_refl) (by eq_refl)
theorem wk_1072 : (.codeWith yL_howOften cL_howOften 4 (some .int) [(0, 10, 13, 19), (0, 10, 16, 74)] : Jvm.Cond) ∈ WS := WS_t5 54 (by eq_refl) (by eq_refl)
theorem wk_1070 : (.methodLink RL 298 yL_howOften : Jvm.Cond) ∈ WS := WS_t5 52 (by eq_refl) (by eq_refl)
theorem wk_1071 : (.static yL_howOften : Jvm.Cond) ∈ WS := WS_t5 53 (by eq_refl) (by eq_refl)
theorem wk_1531 : (.code yX3_howOften cX3_howOften 2 (some .int) : Jvm.Cond) ∈ WS := WS_t7 33 (by eq_refl) (by eq_refl)
theorem wk_1528 : (.methodLink RL 300 yX3_howOften : Jvm.Cond) ∈ WS := WS_t7 30 (by eq_refl) (by eq_refl)
theorem wk_1529 : (.instanceMethod yX3_howOften : Jvm.Cond) ∈ WS := WS_t7 31 (by eq_refl) (by eq_refl)
theorem wk_1530 : (.selects RX3 yX3_howOften yX3_howOften : Jvm.Cond) ∈ WS := WS_t7 32 (by eq_refl) (by eq_refl)
theorem wk_1079 : (.codeWith yL_lift cL_lift 4 (some .int) [(0, 10, 13, 19), (0, 10, 16, 74)] : Jvm.Cond) ∈ WS := WS_t5 61 (by eq_refl) (by eq_refl)
theorem wk_1077 : (.methodLink RL 301 yL_lift : Jvm.Cond) ∈ WS := WS_t5 59 (by eq_refl) (by eq_refl)
theorem wk_1078 : (.static yL_lift : Jvm.Cond) ∈ WS := WS_t5 60 (by eq_refl) (by eq_refl)
theorem wk_1585 : (.code yX3_lift cX3_lift 3 (some .int) : Jvm.Cond) ∈ WS := WS_t7 87 (by eq_refl) (by eq_refl)
theorem wk_1582 : (.methodLink RL 303 yX3_lift : Jvm.Cond) ∈ WS := WS_t7 84 (by eq_refl) (by eq_refl)
theorem wk_1583 : (.instanceMethod yX3_lift : Jvm.Cond) ∈ WS := WS_t7 85 (by eq_refl) (by eq_refl)
theorem wk_1584 : (.selects RX3 yX3_lift yX3_lift : Jvm.Cond) ∈ WS := WS_t7 86 (by eq_refl) (by eq_refl)
theorem wk_1090 : (.codeWith yL_pick cL_pick 5 (some .int) [(0, 11, 14, 19)] : Jvm.Cond) ∈ WS := WS_t5 72 (by eq_refl) (by eq_refl)
theorem wk_1088 : (.methodLink RL 304 yL_pick : Jvm.Cond) ∈ WS := WS_t5 70 (by eq_refl) (by eq_refl)
theorem wk_1089 : (.static yL_pick : Jvm.Cond) ∈ WS := WS_t5 71 (by eq_refl) (by eq_refl)
theorem wk_1598 : (.code yX3_pick cX3_pick 4 (some .int) : Jvm.Cond) ∈ WS := WS_t7 100 (by eq_refl) (by eq_refl)
theorem wk_1595 : (.methodLink RL 306 yX3_pick : Jvm.Cond) ∈ WS := WS_t7 97 (by eq_refl) (by eq_refl)
theorem wk_1596 : (.instanceMethod yX3_pick : Jvm.Cond) ∈ WS := WS_t7 98 (by eq_refl) (by eq_refl)
theorem wk_1597 : (.selects RX3 yX3_pick yX3_pick : Jvm.Cond) ∈ WS := WS_t7 99 (by eq_refl) (by eq_refl)
theorem wk_124 : (.code yX1_turn cX1_turn 4 (some .int) : Jvm.Cond) ∈ WS := WS_t1 66 (by eq_refl) (by eq_refl)
theorem wk_121 : (.methodLink RL 307 yX1_turn : Jvm.Cond) ∈ WS := WS_t1 63 (by eq_refl) (by eq_refl)
theorem wk_122 : (.instanceMethod yX1_turn : Jvm.Cond) ∈ WS := WS_t1 64 (by eq_refl) (by eq_refl)
theorem wk_123 : (.selects RX1 yX1_turn yX1_turn : Jvm.Cond) ∈ WS := WS_t1 65 (by eq_refl) (by eq_refl)
theorem wk_1602 : (.code yX3_turn cX3_turn 4 (some .int) : Jvm.Cond) ∈ WS := WS_t7 104 (by eq_refl) (by eq_refl)
theorem wk_1599 : (.methodLink RL 311 yX3_turn : Jvm.Cond) ∈ WS := WS_t7 101 (by eq_refl) (by eq_refl)
theorem wk_1600 : (.instanceMethod yX3_turn : Jvm.Cond) ∈ WS := WS_t7 102 (by eq_refl) (by eq_refl)
theorem wk_1601 : (.selects RX3 yX3_turn yX3_turn : Jvm.Cond) ∈ WS := WS_t7 103 (by eq_refl) (by eq_refl)
theorem wk_128 : (.code yX1_sweep cX1_sweep 3 (some .int) : Jvm.Cond) ∈ WS := WS_t1 70 (by eq_refl) (by eq_refl)
theorem wk_125 : (.methodLink RL 312 yX1_sweep : Jvm.Cond) ∈ WS := WS_t1 67 (by eq_refl) (by eq_refl)
theorem wk_126 : (.instanceMethod yX1_sweep : Jvm.Cond) ∈ WS := WS_t1 68 (by eq_refl) (by eq_refl)
theorem wk_127 : (.selects RX1 yX1_sweep yX1_sweep : Jvm.Cond) ∈ WS := WS_t1 69 (by eq_refl) (by eq_refl)
theorem wk_1627 : (.code yX3_sweep cX3_sweep 2 (some .int) : Jvm.Cond) ∈ WS := WS_t7 129 (by eq_refl) (by eq_refl)
theorem wk_1624 : (.methodLink RL 315 yX3_sweep : Jvm.Cond) ∈ WS := WS_t7 126 (by eq_refl) (by eq_refl)
theorem wk_1625 : (.instanceMethod yX3_sweep : Jvm.Cond) ∈ WS := WS_t7 127 (by eq_refl) (by eq_refl)
theorem wk_1626 : (.selects RX3 yX3_sweep yX3_sweep : Jvm.Cond) ∈ WS := WS_t7 128 (by eq_refl) (by eq_refl)
theorem wk_1102 : (.codeWith yL_pile cL_pile 5 (some .int) [(0, 11, 14, 19), (0, 11, 18, 28)] : Jvm.Cond) ∈ WS := WS_t5 84 (by eq_refl) (by eq_refl)
theorem wk_1100 : (.methodLink RL 316 yL_pile : Jvm.Cond) ∈ WS := WS_t5 82 (by eq_refl) (by eq_refl)
theorem wk_1101 : (.static yL_pile : Jvm.Cond) ∈ WS := WS_t5 83 (by eq_refl) (by eq_refl)
theorem wk_1631 : (.code yX3_pile cX3_pile 3 (some .int) : Jvm.Cond) ∈ WS := WS_t7 133 (by eq_refl) (by eq_refl)
theorem wk_1628 : (.methodLink RL 318 yX3_pile : Jvm.Cond) ∈ WS := WS_t7 130 (by eq_refl) (by eq_refl)
theorem wk_1629 : (.instanceMethod yX3_pile : Jvm.Cond) ∈ WS := WS_t7 131 (by eq_refl) (by eq_refl)
theorem wk_1630 : (.selects RX3 yX3_pile yX3_pile : Jvm.Cond) ∈ WS := WS_t7 132 (by eq_refl) (by eq_refl)
theorem wk_1109 : (.codeWith yL_house cL_house 4 (some .int) [(0, 10, 13, 28)] : Jvm.Cond) ∈ WS := WS_t5 91 (by eq_refl) (by eq_refl)
theorem wk_1107 : (.methodLink RL 319 yL_house : Jvm.Cond) ∈ WS := WS_t5 89 (by eq_refl) (by eq_refl)
theorem wk_1108 : (.static yL_house : Jvm.Cond) ∈ WS := WS_t5 90 (by eq_refl) (by eq_refl)
theorem wk_1644 : (.code yX3_house cX3_house 2 (some .int) : Jvm.Cond) ∈ WS := WS_t7 146 (by eq_refl) (by eq_refl)
theorem wk_1641 : (.methodLink RL 321 yX3_house : Jvm.Cond) ∈ WS := WS_t7 143 (by eq_refl) (by eq_refl)
theorem wk_1642 : (.instanceMethod yX3_house : Jvm.Cond) ∈ WS := WS_t7 144 (by eq_refl) (by eq_refl)
theorem wk_1643 : (.selects RX3 yX3_house yX3_house : Jvm.Cond) ∈ WS := WS_t7 145 (by eq_refl) (by eq_refl)
theorem wk_132 : (.code yX1_knock cX1_knock 1 (some .int) : Jvm.Cond) ∈ WS := WS_t1 74 (by eq_refl) (by eq_refl)
theorem wk_129 : (.methodLink RL 322 yX1_knock : Jvm.Cond) ∈ WS := WS_t1 71 (by eq_refl) (by eq_refl)
theorem wk_130 : (.instanceMethod yX1_knock : Jvm.Cond) ∈ WS := WS_t1 72 (by eq_refl) (by eq_refl)
theorem wk_131 : (.selects RX1 yX1_knock yX1_knock : Jvm.Cond) ∈ WS := WS_t1 73 (by eq_refl) (by eq_refl)
theorem wk_1653 : (.code yX3_knock cX3_knock 1 (some .int) : Jvm.Cond) ∈ WS := WS_t7 155 (by eq_refl) (by eq_refl)
theorem wk_1650 : (.methodLink RL 325 yX3_knock : Jvm.Cond) ∈ WS := WS_t7 152 (by eq_refl) (by eq_refl)
theorem wk_1651 : (.instanceMethod yX3_knock : Jvm.Cond) ∈ WS := WS_t7 153 (by eq_refl) (by eq_refl)
theorem wk_1652 : (.selects RX3 yX3_knock yX3_knock : Jvm.Cond) ∈ WS := WS_t7 154 (by eq_refl) (by eq_refl)
theorem wk_133 : (.methodLink RL 326 yX1_isSound : Jvm.Cond) ∈ WS := WS_t1 75 (by eq_refl) (by eq_refl)
theorem wk_1657 : (.code yX3_isSound cX3_isSound 1 (some .boolean) : Jvm.Cond) ∈ WS := WS_t7 159 (by eq_refl) (by eq_refl)
theorem wk_1654 : (.methodLink RL 330 yX3_isSound : Jvm.Cond) ∈ WS := WS_t7 156 (by eq_refl) (by eq_refl)
theorem wk_1655 : (.instanceMethod yX3_isSound : Jvm.Cond) ∈ WS := WS_t7 157 (by eq_refl) (by eq_refl)
theorem wk_1656 : (.selects RX3 yX3_isSound yX3_isSound : Jvm.Cond) ∈ WS := WS_t7 158 (by eq_refl) (by eq_refl)
theorem wk_247 : (.code yX1_digest cX1_digest 4 (some .long) : Jvm.Cond) ∈ WS := WS_t1 189 (by eq_refl) (by eq_refl)
theorem wk_244 : (.methodLink RL 331 yX1_digest : Jvm.Cond) ∈ WS := WS_t1 186 (by eq_refl) (by eq_refl)
theorem wk_245 : (.instanceMethod yX1_digest : Jvm.Cond) ∈ WS := WS_t1 187 (by eq_refl) (by eq_refl)
theorem wk_246 : (.selects RX1 yX1_digest yX1_digest : Jvm.Cond) ∈ WS := WS_t1 188 (by eq_refl) (by eq_refl)
theorem wk_1661 : (.code yX3_digest cX3_digest 6 (some .long) : Jvm.Cond) ∈ WS := WS_t7 163 (by eq_refl) (by eq_refl)
theorem wk_1658 : (.methodLink RL 335 yX3_digest : Jvm.Cond) ∈ WS := WS_t7 160 (by eq_refl) (by eq_refl)
theorem wk_1659 : (.instanceMethod yX3_digest : Jvm.Cond) ∈ WS := WS_t7 161 (by eq_refl) (by eq_refl)
theorem wk_1660 : (.selects RX3 yX3_digest yX3_digest : Jvm.Cond) ∈ WS := WS_t7 162 (by eq_refl) (by eq_refl)
theorem kc_183 {l : Launch} (hl : l.stackTraces = false) {G : GT} {own : String} {i : Nat} (hw : Jvm.Cond.methodLink own i yX1_init ∈ WS) : vCal l G own i (4, 1, 5, 1, (fun _ _ => 3), (fun _ _ => 26), yX1_init, spOf (MX1_init (gg G))) := ⟨cX1_init, 1, none, fun y hy => by subst hy; exact ⟨Nat.le_of_ble_eq_true rfl, ⟨_, wk_92, okX1_init hl, Or.inl ⟨Nat.ne_of_beq_eq_false rfl, rfl⟩⟩, wk_59, nc14, ⟨pd7, rfl, hw, wk_91, rfl⟩⟩⟩
theorem kc_184 {l : Launch} (hl : l.stackTraces = false) {G : GT} {own : String} {i : Nat} (hw : Jvm.Cond.methodLink own i yX3_init ∈ WS) : vCal l G own i (4, 1, 7, 7, (fun _ _ => 9), (fun _ _ => 104), yX3_init, spOf (MX3_init (gg G))) := ⟨cX3_init, 2, none, fun y hy => by subst hy; exact ⟨Nat.le_of_ble_eq_true rfl, ⟨_, wk_1118, okX3_init hl, Or.inl ⟨Nat.ne_of_beq_eq_false rfl, rfl⟩⟩, wk_60, nc13, ⟨pd7, rfl, hw, wk_1117, rfl⟩⟩⟩
theorem nc15 : (RX2 : String) ≠ "java/lang/invoke/MethodHandle" ∧ (RX2 : String) ≠ "java/lang/invoke/VarHandle" := ⟨by decide, by decide⟩
theorem nc16 : (RL : String) ≠ "java/lang/invoke/MethodHandle" ∧ (RL : String) ≠ "java/lang/invoke/VarHandle" := ⟨by decide, by decide⟩
theorem kc_185 {l : Launch} (hl : l.stackTraces = false) {G : GT} {own : String} {i : Nat} (hw : Jvm.Cond.methodLink own i yX3_set ∈ WS) : vCal l G own i (2, 4, 7, 3, (fun _ _ => 0), (fun _ _ => 0), yX3_set, spOf (MX3_set (gg G))) := ⟨cX3_set, 5, some .int, fun y hy => by subst hy; exact ⟨Nat.le_of_ble_eq_true rfl, ⟨_, wk_1217, okX3_set hl, Or.inl ⟨Nat.ne_of_beq_eq_false rfl, rfl⟩⟩, wk_60, nc13, ⟨pd82, hw, wk_1215, wk_1216, (RX3, TX3, 7), rfl, rfl⟩⟩⟩
theorem kc_186 {l : Launch} (hl : l.stackTraces = false) {G : GT} {own : String} {i : Nat} (hw : Jvm.Cond.methodLink own i yX3_setSmall ∈ WS) : vCal l G own i (2, 3, 7, 3, (fun _ _ => 0), (fun _ _ => 0), yX3_setSmall, spOf (MX3_setSmall (gg G))) := ⟨cX3_setSmall, 4, some .int, fun y hy => by subst hy; exact ⟨Nat.le_of_ble_eq_true rfl, ⟨_, wk_1239, okX3_setSmall hl, Or.inl ⟨Nat.ne_of_beq_eq_false rfl, rfl⟩⟩, wk_60, nc13, ⟨pd45, hw, wk_1237, wk_1238, (RX3, TX3, 7), rfl, rfl⟩⟩⟩
theorem kc_187 {l : Launch} (hl : l.stackTraces = false) {G : GT} {own : String} {i : Nat} (hw : Jvm.Cond.methodLink own i yX3_setEnd ∈ WS) : vCal l G own i (2, 3, 7, 3, (fun _ _ => 1), (fun _ _ => 4), yX3_setEnd, spOf (MX3_setEnd (gg G))) := ⟨cX3_setEnd, 4, some .int, fun y hy => by subst hy; exact ⟨Nat.le_of_ble_eq_true rfl, ⟨_, wk_1247, okX3_setEnd hl, Or.inl ⟨Nat.ne_of_beq_eq_false rfl, rfl⟩⟩, wk_60, nc13, ⟨pd45, hw, wk_1245, wk_1246, (RX3, TX3, 7), rfl, rfl⟩⟩⟩
theorem kc_188 {l : Launch} (hl : l.stackTraces = false) {G : GT} {own : String} {i : Nat} (hw : Jvm.Cond.methodLink own i yX3_move ∈ WS) : vCal l G own i (2, 3, 7, 3, (fun _ _ => 0), (fun _ _ => 0), yX3_move, spOf (MX3_move (gg G))) := ⟨cX3_move, 3, some .int, fun y hy => by subst hy; exact ⟨Nat.le_of_ble_eq_true rfl, ⟨_, wk_1258, okX3_move hl, Or.inl ⟨Nat.ne_of_beq_eq_false rfl, rfl⟩⟩, wk_60, nc13, ⟨pd45, hw, wk_1256, wk_1257, (RX3, TX3, 7), rfl, rfl⟩⟩⟩
theorem kc_189 {l : Launch} (hl : l.stackTraces = false) {G : GT} {own : String} {i : Nat} (hw : Jvm.Cond.methodLink own i yX3_copy ∈ WS) : vCal l G own i (2, 3, 7, 3, (fun _ _ => 0), (fun _ _ => 0), yX3_copy, spOf (MX3_copy (gg G))) := ⟨cX3_copy, 3, some .int, fun y hy => by subst hy; exact ⟨Nat.le_of_ble_eq_true rfl, ⟨_, wk_1262, okX3_copy hl, Or.inl ⟨Nat.ne_of_beq_eq_false rfl, rfl⟩⟩, wk_60, nc13, ⟨pd45, hw, wk_1260, wk_1261, (RX3, TX3, 7), rfl, rfl⟩⟩⟩
theorem kc_190 {l : Launch} (hl : l.stackTraces = false) {G : GT} {own : String} {i : Nat} (hw : Jvm.Cond.methodLink own i yX3_ofNumber ∈ WS) : vCal l G own i (2, 3, 7, 3, (fun _ _ => 0), (fun _ _ => 0), yX3_ofNumber, spOf (MX3_ofNumber (gg G))) := ⟨cX3_ofNumber, 3, some .int, fun y hy => by subst hy; exact ⟨Nat.le_of_ble_eq_true rfl, ⟨_, wk_1266, okX3_ofNumber hl, Or.inl ⟨Nat.ne_of_beq_eq_false rfl, rfl⟩⟩, wk_60, nc13, ⟨pd47, hw, wk_1264, wk_1265, (RX3, TX3, 7), rfl, rfl⟩⟩⟩
theorem kc_191 {l : Launch} (hl : l.stackTraces = false) {G : GT} {own : String} {i : Nat} (hw : Jvm.Cond.methodLink own i yX3_numberText ∈ WS) : vCal l G own i (2, 2, 7, 7, (fun _ _ => 6), (fun _ _ => 454), yX3_numberText, spOf (MX3_numberText (gg G))) := ⟨cX3_numberText, 2, some (.object "java/lang/String"), fun y hy => by subst hy; exact ⟨Nat.le_of_ble_eq_true rfl, ⟨_, wk_1270, okX3_numberText hl, Or.inl ⟨Nat.ne_of_beq_eq_false rfl, rfl⟩⟩, wk_60, nc13, ⟨pd83, hw, wk_1268, wk_1269, (RX3, TX3, 7), rfl, rfl⟩⟩⟩
theorem kc_192 {l : Launch} (hl : l.stackTraces = false) {G : GT} {own : String} {i : Nat} (hw : Jvm.Cond.methodLink own i yX3_order ∈ WS) : vCal l G own i (2, 3, 7, 3, (fun _ _ => 0), (fun _ _ => 0), yX3_order, spOf (MX3_order (gg G))) := ⟨cX3_order, 3, some .int, fun y hy => by subst hy; exact ⟨Nat.le_of_ble_eq_true rfl, ⟨_, wk_1306, okX3_order hl, Or.inl ⟨Nat.ne_of_beq_eq_false rfl, rfl⟩⟩, wk_60, nc13, ⟨pd45, hw, wk_1304, wk_1305, (RX3, TX3, 7), rfl, rfl⟩⟩⟩
theorem kc_193 {l : Launch} (hl : l.stackTraces = false) {G : GT} {own : String} {i : Nat} (hw : Jvm.Cond.methodLink own i yX3_two ∈ WS) : vCal l G own i (2, 4, 7, 5, (fun _ _ => 1), (fun _ _ => 4), yX3_two, spOf (MX3_two (gg G))) := ⟨cX3_two, 4, some .int, fun y hy => by subst hy; exact ⟨Nat.le_of_ble_eq_true rfl, ⟨_, wk_1313, okX3_two hl, Or.inl ⟨Nat.ne_of_beq_eq_false rfl, rfl⟩⟩, wk_60, nc13, ⟨pd82, hw, wk_1311, wk_1312, (RX3, TX3, 7), rfl, rfl⟩⟩⟩
theorem kc_194 {l : Launch} (hl : l.stackTraces = false) {G : GT} {own : String} {i : Nat} (hw : Jvm.Cond.methodLink own i yX3_three ∈ WS) : vCal l G own i (2, 5, 7, 5, (fun _ _ => 1), (fun _ _ => 4), yX3_three, spOf (MX3_three (gg G))) := ⟨cX3_three, 5, some .int, fun y hy => by subst hy; exact ⟨Nat.le_of_ble_eq_true rfl, ⟨_, wk_1343, okX3_three hl, Or.inl ⟨Nat.ne_of_beq_eq_false rfl, rfl⟩⟩, wk_60, nc13, ⟨pd84, hw, wk_1341, wk_1342, (RX3, TX3, 7), rfl, rfl⟩⟩⟩
theorem kc_195 {l : Launch} (hl : l.stackTraces = false) {G : GT} {own : String} {i : Nat} (hw : Jvm.Cond.methodLink own i yX3_four ∈ WS) : vCal l G own i (2, 6, 7, 5, (fun _ _ => 1), (fun _ _ => 4), yX3_four, spOf (MX3_four (gg G))) := ⟨cX3_four, 6, some .int, fun y hy => by subst hy; exact ⟨Nat.le_of_ble_eq_true rfl, ⟨_, wk_1347, okX3_four hl, Or.inl ⟨Nat.ne_of_beq_eq_false rfl, rfl⟩⟩, wk_60, nc13, ⟨pd85, hw, wk_1345, wk_1346, (RX3, TX3, 7), rfl, rfl⟩⟩⟩
theorem kc_196 {l : Launch} (hl : l.stackTraces = false) {G : GT} {own : String} {i : Nat} (hw : Jvm.Cond.methodLink own i yX3_twoSmall ∈ WS) : vCal l G own i (2, 4, 7, 5, (fun _ _ => 1), (fun _ _ => 4), yX3_twoSmall, spOf (MX3_twoSmall (gg G))) := ⟨cX3_twoSmall, 4, some .int, fun y hy => by subst hy; exact ⟨Nat.le_of_ble_eq_true rfl, ⟨_, wk_1351, okX3_twoSmall hl, Or.inl ⟨Nat.ne_of_beq_eq_false rfl, rfl⟩⟩, wk_60, nc13, ⟨pd82, hw, wk_1349, wk_1350, (RX3, TX3, 7), rfl, rfl⟩⟩⟩
theorem kc_197 {l : Launch} (hl : l.stackTraces = false) {G : GT} {own : String} {i : Nat} (hw : Jvm.Cond.methodLink own i yX3_threeSmall ∈ WS) : vCal l G own i (2, 5, 7, 5, (fun _ _ => 1), (fun _ _ => 4), yX3_threeSmall, spOf (MX3_threeSmall (gg G))) := ⟨cX3_threeSmall, 5, some .int, fun y hy => by subst hy; exact ⟨Nat.le_of_ble_eq_true rfl, ⟨_, wk_1355, okX3_threeSmall hl, Or.inl ⟨Nat.ne_of_beq_eq_false rfl, rfl⟩⟩, wk_60, nc13, ⟨pd84, hw, wk_1353, wk_1354, (RX3, TX3, 7), rfl, rfl⟩⟩⟩
theorem kc_198 {l : Launch} (hl : l.stackTraces = false) {G : GT} {own : String} {i : Nat} (hw : Jvm.Cond.methodLink own i yX3_fourSmall ∈ WS) : vCal l G own i (2, 6, 7, 5, (fun _ _ => 1), (fun _ _ => 4), yX3_fourSmall, spOf (MX3_fourSmall (gg G))) := ⟨cX3_fourSmall, 6, some .int, fun y hy => by subst hy; exact ⟨Nat.le_of_ble_eq_true rfl, ⟨_, wk_1359, okX3_fourSmall hl, Or.inl ⟨Nat.ne_of_beq_eq_false rfl, rfl⟩⟩, wk_60, nc13, ⟨pd85, hw, wk_1357, wk_1358, (RX3, TX3, 7), rfl, rfl⟩⟩⟩
theorem kc_199 {l : Launch} (hl : l.stackTraces = false) {G : GT} {own : String} {i : Nat} (hw : Jvm.Cond.methodLink own i yX3_again ∈ WS) : vCal l G own i (2, 3, 7, 6, (fun _ _ => 1), (fun _ _ => 4), yX3_again, spOf (MX3_again (gg G))) := ⟨cX3_again, 10, some .int, fun y hy => by subst hy; exact ⟨Nat.le_of_ble_eq_true rfl, ⟨_, wk_1363, okX3_again hl, Or.inl ⟨Nat.ne_of_beq_eq_false rfl, rfl⟩⟩, wk_60, nc13, ⟨pd45, hw, wk_1361, wk_1362, (RX3, TX3, 7), rfl, rfl⟩⟩⟩
theorem kc_200 {l : Launch} (hl : l.stackTraces = false) {G : GT} {own : String} {i : Nat} (hw : Jvm.Cond.methodLink own i yX3_same_ ∈ WS) : vCal l G own i (2, 3, 7, 6, (fun _ _ => 0), (fun _ _ => 0), yX3_same_, spOf (MX3_same_ (gg G))) := ⟨cX3_same_, 4, some .int, fun y hy => by subst hy; exact ⟨Nat.le_of_ble_eq_true rfl, ⟨_, wk_1380, okX3_same_ hl, Or.inl ⟨Nat.ne_of_beq_eq_false rfl, rfl⟩⟩, wk_60, nc13, ⟨pd45, hw, wk_1378, wk_1379, (RX3, TX3, 7), rfl, rfl⟩⟩⟩
theorem kc_201 {l : Launch} (hl : l.stackTraces = false) {G : GT} {own : String} {i : Nat} (hw : Jvm.Cond.methodLink own i yX3_outer ∈ WS) : vCal l G own i (2, 3, 7, 6, (fun _ _ => 1), (fun _ _ => 4), yX3_outer, spOf (MX3_outer (gg G))) := ⟨cX3_outer, 4, some .int, fun y hy => by subst hy; exact ⟨Nat.le_of_ble_eq_true rfl, ⟨_, wk_1387, okX3_outer hl, Or.inl ⟨Nat.ne_of_beq_eq_false rfl, rfl⟩⟩, wk_60, nc13, ⟨pd45, hw, wk_1385, wk_1386, (RX3, TX3, 7), rfl, rfl⟩⟩⟩
theorem kc_202 {l : Launch} (hl : l.stackTraces = false) {G : GT} {own : String} {i : Nat} (hw : Jvm.Cond.methodLink own i yX3_inner ∈ WS) : vCal l G own i (2, 3, 7, 6, (fun _ _ => 1), (fun _ _ => 4), yX3_inner, spOf (MX3_inner (gg G))) := ⟨cX3_inner, 4, some .int, fun y hy => by subst hy; exact ⟨Nat.le_of_ble_eq_true rfl, ⟨_, wk_1394, okX3_inner hl, Or.inl ⟨Nat.ne_of_beq_eq_false rfl, rfl⟩⟩, wk_60, nc13, ⟨pd45, hw, wk_1392, wk_1393, (RX3, TX3, 7), rfl, rfl⟩⟩⟩
theorem kc_203 {l : Launch} (hl : l.stackTraces = false) {G : GT} {own : String} {i : Nat} (hw : Jvm.Cond.methodLink own i yX3_span ∈ WS) : vCal l G own i (2, 4, 7, 5, (fun _ _ => 1), (fun _ _ => 4), yX3_span, spOf (MX3_span (gg G))) := ⟨cX3_span, 4, some .int, fun y hy => by subst hy; exact ⟨Nat.le_of_ble_eq_true rfl, ⟨_, wk_1398, okX3_span hl, Or.inl ⟨Nat.ne_of_beq_eq_false rfl, rfl⟩⟩, wk_60, nc13, ⟨pd82, hw, wk_1396, wk_1397, (RX3, TX3, 7), rfl, rfl⟩⟩⟩
theorem kc_204 {l : Launch} (hl : l.stackTraces = false) {G : GT} {own : String} {i : Nat} (hw : Jvm.Cond.methodLink own i yX3_shift ∈ WS) : vCal l G own i (2, 3, 7, 6, (fun _ _ => 1), (fun _ _ => 4), yX3_shift, spOf (MX3_shift (gg G))) := ⟨cX3_shift, 4, some .int, fun y hy => by subst hy; exact ⟨Nat.le_of_ble_eq_true rfl, ⟨_, wk_1402, okX3_shift hl, Or.inl ⟨Nat.ne_of_beq_eq_false rfl, rfl⟩⟩, wk_60, nc13, ⟨pd45, hw, wk_1400, wk_1401, (RX3, TX3, 7), rfl, rfl⟩⟩⟩
theorem kc_205 {l : Launch} (hl : l.stackTraces = false) {G : GT} {own : String} {i : Nat} (hw : Jvm.Cond.methodLink own i yX3_drop ∈ WS) : vCal l G own i (2, 2, 7, 5, (fun _ _ => 0), (fun _ _ => 0), yX3_drop, spOf (MX3_drop (gg G))) := ⟨cX3_drop, 3, some .int, fun y hy => by subst hy; exact ⟨Nat.le_of_ble_eq_true rfl, ⟨_, wk_1410, okX3_drop hl, Or.inl ⟨Nat.ne_of_beq_eq_false rfl, rfl⟩⟩, wk_60, nc13, ⟨pd46, hw, wk_1408, wk_1409, (RX3, TX3, 7), rfl, rfl⟩⟩⟩
theorem kc_206 {l : Launch} (hl : l.stackTraces = false) {G : GT} {own : String} {i : Nat} (hw : Jvm.Cond.methodLink own i yX3_isThere ∈ WS) : vCal l G own i (2, 2, 7, 5, (fun _ _ => 0), (fun _ _ => 0), yX3_isThere, spOf (MX3_isThere (gg G))) := ⟨cX3_isThere, 2, some .boolean, fun y hy => by subst hy; exact ⟨Nat.le_of_ble_eq_true rfl, ⟨_, wk_1414, okX3_isThere hl, Or.inl ⟨Nat.ne_of_beq_eq_false rfl, rfl⟩⟩, wk_60, nc13, ⟨pd38, hw, wk_1412, wk_1413, (RX3, TX3, 7), rfl, rfl⟩⟩⟩
theorem kc_207 {l : Launch} (hl : l.stackTraces = false) {G : GT} {own : String} {i : Nat} (hw : Jvm.Cond.methodLink own i yX3_isFixed ∈ WS) : vCal l G own i (2, 2, 7, 6, (fun _ _ => 0), (fun _ _ => 0), yX3_isFixed, spOf (MX3_isFixed (gg G))) := ⟨cX3_isFixed, 2, some .boolean, fun y hy => by subst hy; exact ⟨Nat.le_of_ble_eq_true rfl, ⟨_, wk_1418, okX3_isFixed hl, Or.inl ⟨Nat.ne_of_beq_eq_false rfl, rfl⟩⟩, wk_60, nc13, ⟨pd38, hw, wk_1416, wk_1417, (RX3, TX3, 7), rfl, rfl⟩⟩⟩
theorem kc_208 {l : Launch} (hl : l.stackTraces = false) {G : GT} {own : String} {i : Nat} (hw : Jvm.Cond.methodLink own i yX3_isSmall ∈ WS) : vCal l G own i (2, 2, 7, 6, (fun _ _ => 0), (fun _ _ => 0), yX3_isSmall, spOf (MX3_isSmall (gg G))) := ⟨cX3_isSmall, 2, some .boolean, fun y hy => by subst hy; exact ⟨Nat.le_of_ble_eq_true rfl, ⟨_, wk_1422, okX3_isSmall hl, Or.inl ⟨Nat.ne_of_beq_eq_false rfl, rfl⟩⟩, wk_60, nc13, ⟨pd38, hw, wk_1420, wk_1421, (RX3, TX3, 7), rfl, rfl⟩⟩⟩
theorem kc_209 {l : Launch} (hl : l.stackTraces = false) {G : GT} {own : String} {i : Nat} (hw : Jvm.Cond.methodLink own i yX3_end ∈ WS) : vCal l G own i (2, 4, 7, 6, (fun _ _ => 0), (fun _ _ => 0), yX3_end, spOf (MX3_end (gg G))) := ⟨cX3_end, 4, some .int, fun y hy => by subst hy; exact ⟨Nat.le_of_ble_eq_true rfl, ⟨_, wk_1429, okX3_end hl, Or.inl ⟨Nat.ne_of_beq_eq_false rfl, rfl⟩⟩, wk_60, nc13, ⟨pd86, hw, wk_1427, wk_1428, (RX3, TX3, 7), rfl, rfl⟩⟩⟩
theorem kc_210 {l : Launch} (hl : l.stackTraces = false) {G : GT} {own : String} {i : Nat} (hw : Jvm.Cond.methodLink own i yX3_take ∈ WS) : vCal l G own i (2, 4, 7, 5, (fun _ _ => 0), (fun _ _ => 0), yX3_take, spOf (MX3_take (gg G))) := ⟨cX3_take, 4, some .int, fun y hy => by subst hy; exact ⟨Nat.le_of_ble_eq_true rfl, ⟨_, wk_1440, okX3_take hl, Or.inl ⟨Nat.ne_of_beq_eq_false rfl, rfl⟩⟩, wk_60, nc13, ⟨pd82, hw, wk_1438, wk_1439, (RX3, TX3, 7), rfl, rfl⟩⟩⟩
theorem kc_211 {l : Launch} (hl : l.stackTraces = false) {G : GT} {own : String} {i : Nat} (hw : Jvm.Cond.methodLink own i yX3_cardText ∈ WS) : vCal l G own i (2, 2, 7, 7, (fun _ _ => 11), (fun _ _ => 1304), yX3_cardText, spOf (MX3_cardText (gg G))) := ⟨cX3_cardText, 3, some (.object "java/lang/String"), fun y hy => by subst hy; exact ⟨Nat.le_of_ble_eq_true rfl, ⟨_, wk_1444, okX3_cardText hl, Or.inl ⟨Nat.ne_of_beq_eq_false rfl, rfl⟩⟩, wk_60, nc13, ⟨pd83, hw, wk_1442, wk_1443, (RX3, TX3, 7), rfl, rfl⟩⟩⟩
theorem kc_212 {l : Launch} (hl : l.stackTraces = false) {G : GT} {own : String} {i : Nat} (hw : Jvm.Cond.methodLink own i yX3_isValid ∈ WS) : vCal l G own i (2, 3, 7, 6, (fun _ _ => 0), (fun _ _ => 0), yX3_isValid, spOf (MX3_isValid (gg G))) := ⟨cX3_isValid, 3, some .boolean, fun y hy => by subst hy; exact ⟨Nat.le_of_ble_eq_true rfl, ⟨_, wk_1450, okX3_isValid hl, Or.inl ⟨Nat.ne_of_beq_eq_false rfl, rfl⟩⟩, wk_60, nc13, ⟨pd39, hw, wk_1448, wk_1449, (RX3, TX3, 7), rfl, rfl⟩⟩⟩
theorem kc_213 {l : Launch} (hl : l.stackTraces = false) {G : GT} {own : String} {i : Nat} (hw : Jvm.Cond.methodLink own i yX3_isValidSmall ∈ WS) : vCal l G own i (2, 3, 7, 6, (fun _ _ => 0), (fun _ _ => 0), yX3_isValidSmall, spOf (MX3_isValidSmall (gg G))) := ⟨cX3_isValidSmall, 3, some .boolean, fun y hy => by subst hy; exact ⟨Nat.le_of_ble_eq_true rfl, ⟨_, wk_1461, okX3_isValidSmall hl, Or.inl ⟨Nat.ne_of_beq_eq_false rfl, rfl⟩⟩, wk_60, nc13, ⟨pd39, hw, wk_1459, wk_1460, (RX3, TX3, 7), rfl, rfl⟩⟩⟩
theorem kc_214 {l : Launch} (hl : l.stackTraces = false) {G : GT} {own : String} {i : Nat} (hw : Jvm.Cond.methodLink own i yX3_whichValid ∈ WS) : vCal l G own i (2, 3, 7, 6, (fun _ _ => 0), (fun _ _ => 0), yX3_whichValid, spOf (MX3_whichValid (gg G))) := ⟨cX3_whichValid, 3, some .int, fun y hy => by subst hy; exact ⟨Nat.le_of_ble_eq_true rfl, ⟨_, wk_1465, okX3_whichValid hl, Or.inl ⟨Nat.ne_of_beq_eq_false rfl, rfl⟩⟩, wk_60, nc13, ⟨pd45, hw, wk_1463, wk_1464, (RX3, TX3, 7), rfl, rfl⟩⟩⟩
theorem kc_215 {l : Launch} (hl : l.stackTraces = false) {G : GT} {own : String} {i : Nat} (hw : Jvm.Cond.methodLink own i yX3_around ∈ WS) : vCal l G own i (2, 4, 7, 6, (fun _ _ => 0), (fun _ _ => 0), yX3_around, spOf (MX3_around (gg G))) := ⟨cX3_around, 4, some .int, fun y hy => by subst hy; exact ⟨Nat.le_of_ble_eq_true rfl, ⟨_, wk_1472, okX3_around hl, Or.inl ⟨Nat.ne_of_beq_eq_false rfl, rfl⟩⟩, wk_60, nc13, ⟨pd86, hw, wk_1470, wk_1471, (RX3, TX3, 7), rfl, rfl⟩⟩⟩
theorem kc_216 {l : Launch} (hl : l.stackTraces = false) {G : GT} {own : String} {i : Nat} (hw : Jvm.Cond.methodLink own i yX3_count ∈ WS) : vCal l G own i (2, 4, 7, 5, (fun _ _ => 0), (fun _ _ => 0), yX3_count, spOf (MX3_count (gg G))) := ⟨cX3_count, 6, some .int, fun y hy => by subst hy; exact ⟨Nat.le_of_ble_eq_true rfl, ⟨_, wk_1479, okX3_count hl, Or.inl ⟨Nat.ne_of_beq_eq_false rfl, rfl⟩⟩, wk_60, nc13, ⟨pd82, hw, wk_1477, wk_1478, (RX3, TX3, 7), rfl, rfl⟩⟩⟩
theorem kc_217 {l : Launch} (hl : l.stackTraces = false) {G : GT} {own : String} {i : Nat} (hw : Jvm.Cond.methodLink own i yX3_who ∈ WS) : vCal l G own i (2, 3, 7, 6, (fun _ _ => 0), (fun _ _ => 0), yX3_who, spOf (MX3_who (gg G))) := ⟨cX3_who, 3, some .int, fun y hy => by subst hy; exact ⟨Nat.le_of_ble_eq_true rfl, ⟨_, wk_1483, okX3_who hl, Or.inl ⟨Nat.ne_of_beq_eq_false rfl, rfl⟩⟩, wk_60, nc13, ⟨pd45, hw, wk_1481, wk_1482, (RX3, TX3, 7), rfl, rfl⟩⟩⟩
theorem kc_218 {l : Launch} (hl : l.stackTraces = false) {G : GT} {own : String} {i : Nat} (hw : Jvm.Cond.methodLink own i yX3_which ∈ WS) : vCal l G own i (2, 2, 7, 6, (fun _ _ => 0), (fun _ _ => 0), yX3_which, spOf (MX3_which (gg G))) := ⟨cX3_which, 2, some .int, fun y hy => by subst hy; exact ⟨Nat.le_of_ble_eq_true rfl, ⟨_, wk_1491, okX3_which hl, Or.inl ⟨Nat.ne_of_beq_eq_false rfl, rfl⟩⟩, wk_60, nc13, ⟨pd46, hw, wk_1489, wk_1490, (RX3, TX3, 7), rfl, rfl⟩⟩⟩
theorem kc_219 {l : Launch} (hl : l.stackTraces = false) {G : GT} {own : String} {i : Nat} (hw : Jvm.Cond.methodLink own i yX3_areSame ∈ WS) : vCal l G own i (2, 3, 7, 5, (fun _ _ => 0), (fun _ _ => 0), yX3_areSame, spOf (MX3_areSame (gg G))) := ⟨cX3_areSame, 3, some .boolean, fun y hy => by subst hy; exact ⟨Nat.le_of_ble_eq_true rfl, ⟨_, wk_1499, okX3_areSame hl, Or.inl ⟨Nat.ne_of_beq_eq_false rfl, rfl⟩⟩, wk_60, nc13, ⟨pd39, hw, wk_1497, wk_1498, (RX3, TX3, 7), rfl, rfl⟩⟩⟩
theorem kc_220 {l : Launch} (hl : l.stackTraces = false) {G : GT} {own : String} {i : Nat} (hw : Jvm.Cond.methodLink own i yX3_isSameAs ∈ WS) : vCal l G own i (2, 3, 7, 5, (fun _ _ => 0), (fun _ _ => 0), yX3_isSameAs, spOf (MX3_isSameAs (gg G))) := ⟨cX3_isSameAs, 3, some .boolean, fun y hy => by subst hy; exact ⟨Nat.le_of_ble_eq_true rfl, ⟨_, wk_1503, okX3_isSameAs hl, Or.inl ⟨Nat.ne_of_beq_eq_false rfl, rfl⟩⟩, wk_60, nc13, ⟨pd39, hw, wk_1501, wk_1502, (RX3, TX3, 7), rfl, rfl⟩⟩⟩
theorem kc_221 {l : Launch} (hl : l.stackTraces = false) {G : GT} {own : String} {i : Nat} (hw : Jvm.Cond.methodLink own i yX3_likes ∈ WS) : vCal l G own i (2, 2, 7, 6, (fun _ _ => 0), (fun _ _ => 0), yX3_likes, spOf (MX3_likes (gg G))) := ⟨cX3_likes, 2, some .int, fun y hy => by subst hy; exact ⟨Nat.le_of_ble_eq_true rfl, ⟨_, wk_1507, okX3_likes hl, Or.inl ⟨Nat.ne_of_beq_eq_false rfl, rfl⟩⟩, wk_60, nc13, ⟨pd46, hw, wk_1505, wk_1506, (RX3, TX3, 7), rfl, rfl⟩⟩⟩
theorem kc_222 {l : Launch} (hl : l.stackTraces = false) {G : GT} {own : String} {i : Nat} (hw : Jvm.Cond.methodLink own i yX3_lay ∈ WS) : vCal l G own i (2, 2, 7, 7, (fun _ _ => 1), (fun _ _ => 15), yX3_lay, spOf (MX3_lay (gg G))) := ⟨cX3_lay, 2, some .int, fun y hy => by subst hy; exact ⟨Nat.le_of_ble_eq_true rfl, ⟨_, wk_1515, okX3_lay hl, Or.inl ⟨Nat.ne_of_beq_eq_false rfl, rfl⟩⟩, wk_60, nc13, ⟨pd46, hw, wk_1513, wk_1514, (RX3, TX3, 7), rfl, rfl⟩⟩⟩
theorem kc_223 {l : Launch} (hl : l.stackTraces = false) {G : GT} {own : String} {i : Nat} (hw : Jvm.Cond.methodLink own i yX3_seek ∈ WS) : vCal l G own i (2, 3, 7, 6, (fun _ _ => 0), (fun _ _ => 0), yX3_seek, spOf (MX3_seek (gg G))) := ⟨cX3_seek, 3, some .int, fun y hy => by subst hy; exact ⟨Nat.le_of_ble_eq_true rfl, ⟨_, wk_1523, okX3_seek hl, Or.inl ⟨Nat.ne_of_beq_eq_false rfl, rfl⟩⟩, wk_60, nc13, ⟨pd47, hw, wk_1521, wk_1522, (RX3, TX3, 7), rfl, rfl⟩⟩⟩
theorem kc_224 {l : Launch} (hl : l.stackTraces = false) {G : GT} {own : String} {i : Nat} (hw : Jvm.Cond.methodLink own i yX3_howOften ∈ WS) : vCal l G own i (2, 2, 7, 6, (fun _ _ => 1), (fun _ _ => 4), yX3_howOften, spOf (MX3_howOften (gg G))) := ⟨cX3_howOften, 2, some .int, fun y hy => by subst hy; exact ⟨Nat.le_of_ble_eq_true rfl, ⟨_, wk_1531, okX3_howOften hl, Or.inl ⟨Nat.ne_of_beq_eq_false rfl, rfl⟩⟩, wk_60, nc13, ⟨pd46, hw, wk_1529, wk_1530, (RX3, TX3, 7), rfl, rfl⟩⟩⟩
theorem kc_225 {l : Launch} (hl : l.stackTraces = false) {G : GT} {own : String} {i : Nat} (hw : Jvm.Cond.methodLink own i yX3_lift ∈ WS) : vCal l G own i (2, 2, 7, 6, (fun _ _ => 0), (fun _ _ => 0), yX3_lift, spOf (MX3_lift (gg G))) := ⟨cX3_lift, 3, some .int, fun y hy => by subst hy; exact ⟨Nat.le_of_ble_eq_true rfl, ⟨_, wk_1585, okX3_lift hl, Or.inl ⟨Nat.ne_of_beq_eq_false rfl, rfl⟩⟩, wk_60, nc13, ⟨pd46, hw, wk_1583, wk_1584, (RX3, TX3, 7), rfl, rfl⟩⟩⟩
theorem kc_226 {l : Launch} (hl : l.stackTraces = false) {G : GT} {own : String} {i : Nat} (hw : Jvm.Cond.methodLink own i yX3_pick ∈ WS) : vCal l G own i (2, 3, 7, 5, (fun _ _ => 0), (fun _ _ => 0), yX3_pick, spOf (MX3_pick (gg G))) := ⟨cX3_pick, 4, some .int, fun y hy => by subst hy; exact ⟨Nat.le_of_ble_eq_true rfl, ⟨_, wk_1598, okX3_pick hl, Or.inl ⟨Nat.ne_of_beq_eq_false rfl, rfl⟩⟩, wk_60, nc13, ⟨pd45, hw, wk_1596, wk_1597, (RX3, TX3, 7), rfl, rfl⟩⟩⟩
theorem kc_227 {l : Launch} (hl : l.stackTraces = false) {G : GT} {own : String} {i : Nat} (hw : Jvm.Cond.methodLink own i yX1_turn ∈ WS) : vCal l G own i (2, 1, 5, 1, (fun _ _ => 0), (fun _ _ => 0), yX1_turn, spOf (MX1_turn (gg G))) := ⟨cX1_turn, 4, some .int, fun y hy => by subst hy; exact ⟨Nat.le_of_ble_eq_true rfl, ⟨_, wk_124, okX1_turn hl, Or.inl ⟨Nat.ne_of_beq_eq_false rfl, rfl⟩⟩, wk_59, nc14, ⟨pd22, hw, wk_122, wk_123, (RX1, TX1, 7), rfl, rfl⟩⟩⟩
theorem kc_228 {l : Launch} (hl : l.stackTraces = false) {G : GT} {own : String} {i : Nat} (hw : Jvm.Cond.methodLink own i yX3_turn ∈ WS) : vCal l G own i (2, 1, 7, 6, (fun _ _ => 14), (fun _ _ => 187), yX3_turn, spOf (MX3_turn (gg G))) := ⟨cX3_turn, 4, some .int, fun y hy => by subst hy; exact ⟨Nat.le_of_ble_eq_true rfl, ⟨_, wk_1602, okX3_turn hl, Or.inl ⟨Nat.ne_of_beq_eq_false rfl, rfl⟩⟩, wk_60, nc13, ⟨pd22, hw, wk_1600, wk_1601, (RX3, TX3, 7), rfl, rfl⟩⟩⟩
theorem kc_229 {l : Launch} (hl : l.stackTraces = false) {G : GT} {own : String} {i : Nat} (hw : Jvm.Cond.methodLink own i yX1_sweep ∈ WS) : vCal l G own i (2, 1, 5, 1, (fun _ _ => 0), (fun _ _ => 0), yX1_sweep, spOf (MX1_sweep (gg G))) := ⟨cX1_sweep, 3, some .int, fun y hy => by subst hy; exact ⟨Nat.le_of_ble_eq_true rfl, ⟨_, wk_128, okX1_sweep hl, Or.inl ⟨Nat.ne_of_beq_eq_false rfl, rfl⟩⟩, wk_59, nc14, ⟨pd22, hw, wk_126, wk_127, (RX1, TX1, 7), rfl, rfl⟩⟩⟩
theorem kc_230 {l : Launch} (hl : l.stackTraces = false) {G : GT} {own : String} {i : Nat} (hw : Jvm.Cond.methodLink own i yX3_sweep ∈ WS) : vCal l G own i (2, 1, 7, 4, (fun _ _ => 1), (fun _ _ => 3), yX3_sweep, spOf (MX3_sweep (gg G))) := ⟨cX3_sweep, 2, some .int, fun y hy => by subst hy; exact ⟨Nat.le_of_ble_eq_true rfl, ⟨_, wk_1627, okX3_sweep hl, Or.inl ⟨Nat.ne_of_beq_eq_false rfl, rfl⟩⟩, wk_60, nc13, ⟨pd22, hw, wk_1625, wk_1626, (RX3, TX3, 7), rfl, rfl⟩⟩⟩
theorem kc_231 {l : Launch} (hl : l.stackTraces = false) {G : GT} {own : String} {i : Nat} (hw : Jvm.Cond.methodLink own i yX3_pile ∈ WS) : vCal l G own i (2, 3, 7, 6, (fun _ _ => 12), (fun _ _ => 72), yX3_pile, spOf (MX3_pile (gg G))) := ⟨cX3_pile, 3, some .int, fun y hy => by subst hy; exact ⟨Nat.le_of_ble_eq_true rfl, ⟨_, wk_1631, okX3_pile hl, Or.inl ⟨Nat.ne_of_beq_eq_false rfl, rfl⟩⟩, wk_60, nc13, ⟨pd45, hw, wk_1629, wk_1630, (RX3, TX3, 7), rfl, rfl⟩⟩⟩
theorem kc_232 {l : Launch} (hl : l.stackTraces = false) {G : GT} {own : String} {i : Nat} (hw : Jvm.Cond.methodLink own i yX3_house ∈ WS) : vCal l G own i (2, 2, 7, 4, (fun _ _ => 2), (fun _ _ => 9), yX3_house, spOf (MX3_house (gg G))) := ⟨cX3_house, 2, some .int, fun y hy => by subst hy; exact ⟨Nat.le_of_ble_eq_true rfl, ⟨_, wk_1644, okX3_house hl, Or.inl ⟨Nat.ne_of_beq_eq_false rfl, rfl⟩⟩, wk_60, nc13, ⟨pd46, hw, wk_1642, wk_1643, (RX3, TX3, 7), rfl, rfl⟩⟩⟩
theorem kc_233 {l : Launch} (hl : l.stackTraces = false) {G : GT} {own : String} {i : Nat} (hw : Jvm.Cond.methodLink own i yX1_knock ∈ WS) : vCal l G own i (2, 1, 5, 1, (fun _ _ => 0), (fun _ _ => 0), yX1_knock, spOf (MX1_knock (gg G))) := ⟨cX1_knock, 1, some .int, fun y hy => by subst hy; exact ⟨Nat.le_of_ble_eq_true rfl, ⟨_, wk_132, okX1_knock hl, Or.inl ⟨Nat.ne_of_beq_eq_false rfl, rfl⟩⟩, wk_59, nc14, ⟨pd22, hw, wk_130, wk_131, (RX1, TX1, 7), rfl, rfl⟩⟩⟩
theorem kc_234 {l : Launch} (hl : l.stackTraces = false) {G : GT} {own : String} {i : Nat} (hw : Jvm.Cond.methodLink own i yX3_knock ∈ WS) : vCal l G own i (2, 1, 7, 1, (fun _ _ => 0), (fun _ _ => 0), yX3_knock, spOf (MX3_knock (gg G))) := ⟨cX3_knock, 1, some .int, fun y hy => by subst hy; exact ⟨Nat.le_of_ble_eq_true rfl, ⟨_, wk_1653, okX3_knock hl, Or.inl ⟨Nat.ne_of_beq_eq_false rfl, rfl⟩⟩, wk_60, nc13, ⟨pd22, hw, wk_1651, wk_1652, (RX3, TX3, 7), rfl, rfl⟩⟩⟩
theorem kc_235 {l : Launch} (hl : l.stackTraces = false) {G : GT} {own : String} {i : Nat} (hw : Jvm.Cond.methodLink own i yX3_isSound ∈ WS) : vCal l G own i (2, 1, 7, 1, (fun _ _ => 0), (fun _ _ => 0), yX3_isSound, spOf (MX3_isSound (gg G))) := ⟨cX3_isSound, 1, some .boolean, fun y hy => by subst hy; exact ⟨Nat.le_of_ble_eq_true rfl, ⟨_, wk_1657, okX3_isSound hl, Or.inl ⟨Nat.ne_of_beq_eq_false rfl, rfl⟩⟩, wk_60, nc13, ⟨pd3, hw, wk_1655, wk_1656, (RX3, TX3, 7), rfl, rfl⟩⟩⟩
theorem kc_236 {l : Launch} (hl : l.stackTraces = false) {G : GT} {own : String} {i : Nat} (hw : Jvm.Cond.methodLink own i yX1_digest ∈ WS) : vCal l G own i (2, 1, 5, 7, (fun _ _ => 24), (fun _ _ => 96), yX1_digest, spOf (MX1_digest (gg G))) := ⟨cX1_digest, 4, some .long, fun y hy => by subst hy; exact ⟨Nat.le_of_ble_eq_true rfl, ⟨_, wk_247, okX1_digest hl, Or.inl ⟨Nat.ne_of_beq_eq_false rfl, rfl⟩⟩, wk_59, nc14, ⟨pd58, hw, wk_245, wk_246, (RX1, TX1, 7), rfl, rfl⟩⟩⟩
theorem kc_237 {l : Launch} (hl : l.stackTraces = false) {G : GT} {own : String} {i : Nat} (hw : Jvm.Cond.methodLink own i yX3_digest ∈ WS) : vCal l G own i (2, 1, 7, 6, (fun _ _ => 90), (fun _ _ => 520), yX3_digest, spOf (MX3_digest (gg G))) := ⟨cX3_digest, 6, some .long, fun y hy => by subst hy; exact ⟨Nat.le_of_ble_eq_true rfl, ⟨_, wk_1661, okX3_digest hl, Or.inl ⟨Nat.ne_of_beq_eq_false rfl, rfl⟩⟩, wk_60, nc13, ⟨pd58, hw, wk_1659, wk_1660, (RX3, TX3, 7), rfl, rfl⟩⟩⟩
theorem vML_law {l : Launch} (hl : l.stackTraces = false) (G : GT) : vM l G (ML_law (gg G)) := vM_k RL cL_law rfl rfl all_n (all_c (vN_RL_8) (all_c (vN_RL_168) (all_c (vN_RL_14) (all_n)))) all_n all_n all_n (fun h => absurd rfl h) (all_c (kc_183 hl wk_90) (all_c (kc_184 hl wk_1116) (all_c (⟨cX2_init, 1, none, fun y hy => by subst hy; exact ⟨Nat.le_of_ble_eq_true rfl, ⟨_, wk_336, okX2_init hl, Or.inl ⟨Nat.ne_of_beq_eq_false rfl, rfl⟩⟩, wk_68, nc15, ⟨(by decide +kernel : (parseMethodDescriptor yX2_init.desc).map (fun d => d.parameters.length + 1) = some 1), rfl, ⟨"RangecardLaw", tm_2 (List.mem_of_getElem? (i := 36) (by eq_refl : tables_1_2[36]? = some (.methodLinkNest RL 171 yX2_init "RangecardLaw")))⟩, wk_335, rfl⟩⟩⟩) (all_c (⟨cL_set, 6, some .int, fun y hy => by subst hy; exact ⟨Nat.le_of_ble_eq_true rfl, ⟨_, wk_347, okL_set hl, Or.inr ⟨rfl, _, rfl⟩⟩, wk_58, nc16, ⟨(by decide +kernel : (parseMethodDescriptor yL_set.desc).map (fun d => d.parameters.length) = some 5), ⟨wk_345, trivial⟩, wk_346⟩⟩⟩) (all_c (kc_185 hl wk_1214) (all_c (⟨cL_setSmall, 5, some .int, fun y hy => by subst hy; exact ⟨Nat.le_of_ble_eq_true rfl, ⟨_, wk_427, okL_setSmall hl, Or.inr ⟨rfl, _, rfl⟩⟩, wk_58, nc16, ⟨(by decide +kernel : (parseMethodDescriptor yL_setSmall.desc).map (fun d => d.parameters.length) = some 4), ⟨wk_425, trivial⟩, wk_426⟩⟩⟩) (all_c (kc_186 hl wk_1236) (all_c (⟨cL_setEnd, 5, some .int, fun y hy => by subst hy; exact ⟨Nat.le_of_ble_eq_true rfl, ⟨_, wk_434, okL_setEnd hl, Or.inr ⟨rfl, _, rfl⟩⟩, wk_58, nc16, ⟨(by decide +kernel : (parseMethodDescriptor yL_setEnd.desc).map (fun d => d.parameters.length) = some 4), ⟨wk_432, trivial⟩, wk_433⟩⟩⟩) (all_c (kc_187 hl wk_1244) (all_c (⟨cL_move, 5, some .int, fun y hy => by subst hy; exact ⟨Nat.le_of_ble_eq_true rfl, ⟨_, wk_470, okL_move hl, Or.inr ⟨rfl, _, rfl⟩⟩, wk_58, nc16, ⟨(by decide +kernel : (parseMethodDescriptor yL_move.desc).map (fun d => d.parameters.length) = some 4), ⟨wk_468, trivial⟩, wk_469⟩⟩⟩) (all_c (kc_188 hl wk_1255) (all_c (⟨cL_copy, 5, some .int, fun y hy => by subst hy; exact ⟨Nat.le_of_ble_eq_true rfl, ⟨_, wk_477, okL_copy hl, Or.inr ⟨rfl, _, rfl⟩⟩, wk_58, nc16, ⟨(by decide +kernel : (parseMethodDescriptor yL_copy.desc).map (fun d => d.parameters.length) = some 4), ⟨wk_475, trivial⟩, wk_476⟩⟩⟩) (all_c (kc_189 hl wk_1259) (all_c (⟨cL_ofNumber, 5, some .int, fun y hy => by subst hy; exact ⟨Nat.le_of_ble_eq_true rfl, ⟨_, wk_484, okL_ofNumber hl, Or.inr ⟨rfl, _, rfl⟩⟩, wk_58, nc16, ⟨(by decide +kernel : (parseMethodDescriptor yL_ofNumber.desc).map (fun d => d.parameters.length) = some 4), ⟨wk_482, trivial⟩, wk_483⟩⟩⟩) (all_c (kc_190 hl wk_1263) (all_c (⟨cL_numberText, 4, some .int, fun y hy => by subst hy; exact ⟨Nat.le_of_ble_eq_true rfl, ⟨_, wk_494, okL_numberText hl, Or.inr ⟨rfl, _, rfl⟩⟩, wk_58, nc16, ⟨(by decide +kernel : (parseMethodDescriptor yL_numberText.desc).map (fun d => d.parameters.length) = some 3), ⟨wk_492, trivial⟩, wk_493⟩⟩⟩) (all_c (kc_191 hl wk_1267) (all_c (⟨cL_order, 5, some .int, fun y hy => by subst hy; exact ⟨Nat.le_of_ble_eq_true rfl, ⟨_, wk_804, okL_order hl, Or.inr ⟨rfl, _, rfl⟩⟩, wk_58, nc16, ⟨(by decide +kernel : (parseMethodDescriptor yL_order.desc).map (fun d => d.parameters.length) = some 4), ⟨wk_802, trivial⟩, wk_803⟩⟩⟩) (all_c (kc_192 hl wk_1303) (all_c (⟨cL_two, 6, some .int, fun y hy => by subst hy; exact ⟨Nat.le_of_ble_eq_true rfl, ⟨_, wk_811, okL_two hl, Or.inr ⟨rfl, _, rfl⟩⟩, wk_58, nc16, ⟨(by decide +kernel : (parseMethodDescriptor yL_two.desc).map (fun d => d.parameters.length) = some 5), ⟨wk_809, trivial⟩, wk_810⟩⟩⟩) (all_c (kc_193 hl wk_1310) (all_c (⟨cL_three, 7, some .int, fun y hy => by subst hy; exact ⟨Nat.le_of_ble_eq_true rfl, ⟨_, wk_830, okL_three hl, Or.inr ⟨rfl, _, rfl⟩⟩, wk_58, nc16, ⟨(by decide +kernel : (parseMethodDescriptor yL_three.desc).map (fun d => d.parameters.length) = some 6), ⟨wk_828, trivial⟩, wk_829⟩⟩⟩) (all_c (kc_194 hl wk_1340) (all_c (⟨cL_four, 8, some .int, fun y hy => by subst hy; exact ⟨Nat.le_of_ble_eq_true rfl, ⟨_, wk_840, okL_four hl, Or.inr ⟨rfl, _, rfl⟩⟩, wk_58, nc16, ⟨(by decide +kernel : (parseMethodDescriptor yL_four.desc).map (fun d => d.parameters.length) = some 7), ⟨wk_838, trivial⟩, wk_839⟩⟩⟩) (all_c (kc_195 hl wk_1344) (all_c (⟨cL_twoSmall, 6, some .int, fun y hy => by subst hy; exact ⟨Nat.le_of_ble_eq_true rfl, ⟨_, wk_847, okL_twoSmall hl, Or.inr ⟨rfl, _, rfl⟩⟩, wk_58, nc16, ⟨(by decide +kernel : (parseMethodDescriptor yL_twoSmall.desc).map (fun d => d.parameters.length) = some 5), ⟨wk_845, trivial⟩, wk_846⟩⟩⟩) (all_c (kc_196 hl wk_1348) (all_c (⟨cL_threeSmall, 7, some .int, fun y hy => by subst hy; exact ⟨Nat.le_of_ble_eq_true rfl, ⟨_, wk_854, okL_threeSmall hl, Or.inr ⟨rfl, _, rfl⟩⟩, wk_58, nc16, ⟨(by decide +kernel : (parseMethodDescriptor yL_threeSmall.desc).map (fun d => d.parameters.length) = some 6), ⟨wk_852, trivial⟩, wk_853⟩⟩⟩) (all_c (kc_197 hl wk_1352) (all_c (⟨cL_fourSmall, 8, some .int, fun y hy => by subst hy; exact ⟨Nat.le_of_ble_eq_true rfl, ⟨_, wk_861, okL_fourSmall hl, Or.inr ⟨rfl, _, rfl⟩⟩, wk_58, nc16, ⟨(by decide +kernel : (parseMethodDescriptor yL_fourSmall.desc).map (fun d => d.parameters.length) = some 7), ⟨wk_859, trivial⟩, wk_860⟩⟩⟩) (all_c (kc_198 hl wk_1356) (all_c (⟨cL_again, 5, some .int, fun y hy => by subst hy; exact ⟨Nat.le_of_ble_eq_true rfl, ⟨_, wk_868, okL_again hl, Or.inr ⟨rfl, _, rfl⟩⟩, wk_58, nc16, ⟨(by decide +kernel : (parseMethodDescriptor yL_again.desc).map (fun d => d.parameters.length) = some 4), ⟨wk_866, trivial⟩, wk_867⟩⟩⟩) (all_c (kc_199 hl wk_1360) (all_c (⟨cL_same, 5, some .int, fun y hy => by subst hy; exact ⟨Nat.le_of_ble_eq_true rfl, ⟨_, wk_902, okL_same hl, Or.inr ⟨rfl, _, rfl⟩⟩, wk_58, nc16, ⟨(by decide +kernel : (parseMethodDescriptor yL_same.desc).map (fun d => d.parameters.length) = some 4), ⟨wk_900, trivial⟩, wk_901⟩⟩⟩) (all_c (kc_200 hl wk_1377) (all_c (⟨cL_outer, 5, some .int, fun y hy => by subst hy; exact ⟨Nat.le_of_ble_eq_true rfl, ⟨_, wk_909, okL_outer hl, Or.inr ⟨rfl, _, rfl⟩⟩, wk_58, nc16, ⟨(by decide +kernel : (parseMethodDescriptor yL_outer.desc).map (fun d => d.parameters.length) = some 4), ⟨wk_907, trivial⟩, wk_908⟩⟩⟩) (all_c (kc_201 hl wk_1384) (all_c (⟨cL_inner, 5, some .int, fun y hy => by subst hy; exact ⟨Nat.le_of_ble_eq_true rfl, ⟨_, wk_916, okL_inner hl, Or.inr ⟨rfl, _, rfl⟩⟩, wk_58, nc16, ⟨(by decide +kernel : (parseMethodDescriptor yL_inner.desc).map (fun d => d.parameters.length) = some 4), ⟨wk_914, trivial⟩, wk_915⟩⟩⟩) (all_c (kc_202 hl wk_1391) (all_c (⟨cL_span, 6, some .int, fun y hy => by subst hy; exact ⟨Nat.le_of_ble_eq_true rfl, ⟨_, wk_923, okL_span hl, Or.inr ⟨rfl, _, rfl⟩⟩, wk_58, nc16, ⟨(by decide +kernel : (parseMethodDescriptor yL_span.desc).map (fun d => d.parameters.length) = some 5), ⟨wk_921, trivial⟩, wk_922⟩⟩⟩) (all_c (kc_203 hl wk_1395) (all_c (⟨cL_shift, 5, some .int, fun y hy => by subst hy; exact ⟨Nat.le_of_ble_eq_true rfl, ⟨_, wk_930, okL_shift hl, Or.inr ⟨rfl, _, rfl⟩⟩, wk_58, nc16, ⟨(by decide +kernel : (parseMethodDescriptor yL_shift.desc).map (fun d => d.parameters.length) = some 4), ⟨wk_928, trivial⟩, wk_929⟩⟩⟩) (all_c (kc_204 hl wk_1399) (all_c (⟨cL_drop, 4, some .int, fun y hy => by subst hy; exact ⟨Nat.le_of_ble_eq_true rfl, ⟨_, wk_937, okL_drop hl, Or.inr ⟨rfl, _, rfl⟩⟩, wk_58, nc16, ⟨(by decide +kernel : (parseMethodDescriptor yL_drop.desc).map (fun d => d.parameters.length) = some 3), ⟨wk_935, trivial⟩, wk_936⟩⟩⟩) (all_c (kc_205 hl wk_1407) (all_c (⟨cL_isThere, 4, some .int, fun y hy => by subst hy; exact ⟨Nat.le_of_ble_eq_true rfl, ⟨_, wk_944, okL_isThere hl, Or.inr ⟨rfl, _, rfl⟩⟩, wk_58, nc16, ⟨(by decide +kernel : (parseMethodDescriptor yL_isThere.desc).map (fun d => d.parameters.length) = some 3), ⟨wk_942, trivial⟩, wk_943⟩⟩⟩) (all_c (kc_206 hl wk_1411) (all_c (⟨cL_isFixed, 4, some .int, fun y hy => by subst hy; exact ⟨Nat.le_of_ble_eq_true rfl, ⟨_, wk_951, okL_isFixed hl, Or.inr ⟨rfl, _, rfl⟩⟩, wk_58, nc16, ⟨(by decide +kernel : (parseMethodDescriptor yL_isFixed.desc).map (fun d => d.parameters.length) = some 3), ⟨wk_949, trivial⟩, wk_950⟩⟩⟩) (all_c (kc_207 hl wk_1415) (all_c (⟨cL_isSmall, 4, some .int, fun y hy => by subst hy; exact ⟨Nat.le_of_ble_eq_true rfl, ⟨_, wk_958, okL_isSmall hl, Or.inr ⟨rfl, _, rfl⟩⟩, wk_58, nc16, ⟨(by decide +kernel : (parseMethodDescriptor yL_isSmall.desc).map (fun d => d.parameters.length) = some 3), ⟨wk_956, trivial⟩, wk_957⟩⟩⟩) (all_c (kc_208 hl wk_1419) (all_c (⟨cL_end, 6, some .int, fun y hy => by subst hy; exact ⟨Nat.le_of_ble_eq_true rfl, ⟨_, wk_965, okL_end hl, Or.inr ⟨rfl, _, rfl⟩⟩, wk_58, nc16, ⟨(by decide +kernel : (parseMethodDescriptor yL_end.desc).map (fun d => d.parameters.length) = some 5), ⟨wk_963, trivial⟩, wk_964⟩⟩⟩) (all_c (kc_209 hl wk_1426) (all_c (⟨cL_take, 6, some .int, fun y hy => by subst hy; exact ⟨Nat.le_of_ble_eq_true rfl, ⟨_, wk_972, okL_take hl, Or.inr ⟨rfl, _, rfl⟩⟩, wk_58, nc16, ⟨(by decide +kernel : (parseMethodDescriptor yL_take.desc).map (fun d => d.parameters.length) = some 5), ⟨wk_970, trivial⟩, wk_971⟩⟩⟩) (all_c (kc_210 hl wk_1437) (all_c (⟨cL_cardText, 4, some .int, fun y hy => by subst hy; exact ⟨Nat.le_of_ble_eq_true rfl, ⟨_, wk_979, okL_cardText hl, Or.inr ⟨rfl, _, rfl⟩⟩, wk_58, nc16, ⟨(by decide +kernel : (parseMethodDescriptor yL_cardText.desc).map (fun d => d.parameters.length) = some 3), ⟨wk_977, trivial⟩, wk_978⟩⟩⟩) (all_c (kc_211 hl wk_1441) (all_c (⟨cL_isValid, 5, some .int, fun y hy => by subst hy; exact ⟨Nat.le_of_ble_eq_true rfl, ⟨_, wk_987, okL_isValid hl, Or.inr ⟨rfl, _, rfl⟩⟩, wk_58, nc16, ⟨(by decide +kernel : (parseMethodDescriptor yL_isValid.desc).map (fun d => d.parameters.length) = some 4), ⟨wk_985, trivial⟩, wk_986⟩⟩⟩) (all_c (kc_212 hl wk_1447) (all_c (⟨cL_isValidSmall, 5, some .int, fun y hy => by subst hy; exact ⟨Nat.le_of_ble_eq_true rfl, ⟨_, wk_994, okL_isValidSmall hl, Or.inr ⟨rfl, _, rfl⟩⟩, wk_58, nc16, ⟨(by decide +kernel : (parseMethodDescriptor yL_isValidSmall.desc).map (fun d => d.parameters.length) = some 4), ⟨wk_992, trivial⟩, wk_993⟩⟩⟩) (all_c (kc_213 hl wk_1458) (all_c (⟨cL_whichValid, 5, some .int, fun y hy => by subst hy; exact ⟨Nat.le_of_ble_eq_true rfl, ⟨_, wk_1001, okL_whichValid hl, Or.inr ⟨rfl, _, rfl⟩⟩, wk_58, nc16, ⟨(by decide +kernel : (parseMethodDescriptor yL_whichValid.desc).map (fun d => d.parameters.length) = some 4), ⟨wk_999, trivial⟩, wk_1000⟩⟩⟩) (all_c (kc_214 hl wk_1462) (all_c (⟨cL_around, 6, some .int, fun y hy => by subst hy; exact ⟨Nat.le_of_ble_eq_true rfl, ⟨_, wk_1008, okL_around hl, Or.inr ⟨rfl, _, rfl⟩⟩, wk_58, nc16, ⟨(by decide +kernel : (parseMethodDescriptor yL_around.desc).map (fun d => d.parameters.length) = some 5), ⟨wk_1006, trivial⟩, wk_1007⟩⟩⟩) (all_c (kc_215 hl wk_1469) (all_c (⟨cL_count, 6, some .int, fun y hy => by subst hy; exact ⟨Nat.le_of_ble_eq_true rfl, ⟨_, wk_1015, okL_count hl, Or.inr ⟨rfl, _, rfl⟩⟩, wk_58, nc16, ⟨(by decide +kernel : (parseMethodDescriptor yL_count.desc).map (fun d => d.parameters.length) = some 5), ⟨wk_1013, trivial⟩, wk_1014⟩⟩⟩) (all_c (kc_216 hl wk_1476) (all_c (⟨cL_who, 5, some .int, fun y hy => by subst hy; exact ⟨Nat.le_of_ble_eq_true rfl, ⟨_, wk_1023, okL_who hl, Or.inr ⟨rfl, _, rfl⟩⟩, wk_58, nc16, ⟨(by decide +kernel : (parseMethodDescriptor yL_who.desc).map (fun d => d.parameters.length) = some 4), ⟨wk_1021, trivial⟩, wk_1022⟩⟩⟩) (all_c (kc_217 hl wk_1480) (all_c (⟨cL_which, 4, some .int, fun y hy => by subst hy; exact ⟨Nat.le_of_ble_eq_true rfl, ⟨_, wk_1030, okL_which hl, Or.inr ⟨rfl, _, rfl⟩⟩, wk_58, nc16, ⟨(by decide +kernel : (parseMethodDescriptor yL_which.desc).map (fun d => d.parameters.length) = some 3), ⟨wk_1028, trivial⟩, wk_1029⟩⟩⟩) (all_c (kc_218 hl wk_1488) (all_c (⟨cL_areSame, 5, some .int, fun y hy => by subst hy; exact ⟨Nat.le_of_ble_eq_true rfl, ⟨_, wk_1037, okL_areSame hl, Or.inr ⟨rfl, _, rfl⟩⟩, wk_58, nc16, ⟨(by decide +kernel : (parseMethodDescriptor yL_areSame.desc).map (fun d => d.parameters.length) = some 4), ⟨wk_1035, trivial⟩, wk_1036⟩⟩⟩) (all_c (kc_219 hl wk_1496) (all_c (⟨cL_isSameAs, 5, some .int, fun y hy => by subst hy; exact ⟨Nat.le_of_ble_eq_true rfl, ⟨_, wk_1044, okL_isSameAs hl, Or.inr ⟨rfl, _, rfl⟩⟩, wk_58, nc16, ⟨(by decide +kernel : (parseMethodDescriptor yL_isSameAs.desc).map (fun d => d.parameters.length) = some 4), ⟨wk_1042, trivial⟩, wk_1043⟩⟩⟩) (all_c (kc_220 hl wk_1500) (all_c (⟨cL_likes, 4, some .int, fun y hy => by subst hy; exact ⟨Nat.le_of_ble_eq_true rfl, ⟨_, wk_1051, okL_likes hl, Or.inr ⟨rfl, _, rfl⟩⟩, wk_58, nc16, ⟨(by decide +kernel : (parseMethodDescriptor yL_likes.desc).map (fun d => d.parameters.length) = some 3), ⟨wk_1049, trivial⟩, wk_1050⟩⟩⟩) (all_c (kc_221 hl wk_1504) (all_c (⟨cL_lay, 4, some .int, fun y hy => by subst hy; exact ⟨Nat.le_of_ble_eq_true rfl, ⟨_, wk_1058, okL_lay hl, Or.inr ⟨rfl, _, rfl⟩⟩, wk_58, nc16, ⟨(by decide +kernel : (parseMethodDescriptor yL_lay.desc).map (fun d => d.parameters.length) = some 3), ⟨wk_1056, trivial⟩, wk_1057⟩⟩⟩) (all_c (kc_222 hl wk_1512) (all_c (⟨cL_seek, 5, some .int, fun y hy => by subst hy; exact ⟨Nat.le_of_ble_eq_true rfl, ⟨_, wk_1065, okL_seek hl, Or.inr ⟨rfl, _, rfl⟩⟩, wk_58, nc16, ⟨(by decide +kernel : (parseMethodDescriptor yL_seek.desc).map (fun d => d.parameters.length) = some 4), ⟨wk_1063, trivial⟩, wk_1064⟩⟩⟩) (all_c (kc_223 hl wk_1520) (all_c (⟨cL_howOften, 4, some .int, fun y hy => by subst hy; exact ⟨Nat.le_of_ble_eq_true rfl, ⟨_, wk_1072, okL_howOften hl, Or.inr ⟨rfl, _, rfl⟩⟩, wk_58, nc16, ⟨(by decide +kernel : (parseMethodDescriptor yL_howOften.desc).map (fun d => d.parameters.length) = some 3), ⟨wk_1070, trivial⟩, wk_1071⟩⟩⟩) (all_c (kc_224 hl wk_1528) (all_c (⟨cL_lift, 4, some .int, fun y hy => by subst hy; exact ⟨Nat.le_of_ble_eq_true rfl, ⟨_, wk_1079, okL_lift hl, Or.inr ⟨rfl, _, rfl⟩⟩, wk_58, nc16, ⟨(by decide +kernel : (parseMethodDescriptor yL_lift.desc).map (fun d => d.parameters.length) = some 3), ⟨wk_1077, trivial⟩, wk_1078⟩⟩⟩) (all_c (kc_225 hl wk_1582) (all_c (⟨cL_pick, 5, some .int, fun y hy => by subst hy; exact ⟨Nat.le_of_ble_eq_true rfl, ⟨_, wk_1090, okL_pick hl, Or.inr ⟨rfl, _, rfl⟩⟩, wk_58, nc16, ⟨(by decide +kernel : (parseMethodDescriptor yL_pick.desc).map (fun d => d.parameters.length) = some 4), ⟨wk_1088, trivial⟩, wk_1089⟩⟩⟩) (all_c (kc_226 hl wk_1595) (all_c (kc_227 hl wk_121) (all_c (kc_228 hl wk_1599) (all_c (kc_229 hl wk_125) (all_c (kc_230 hl wk_1624) (all_c (⟨cL_pile, 5, some .int, fun y hy => by subst hy; exact ⟨Nat.le_of_ble_eq_true rfl, ⟨_, wk_1102, okL_pile hl, Or.inr ⟨rfl, _, rfl⟩⟩, wk_58, nc16, ⟨(by decide +kernel : (parseMethodDescriptor yL_pile.desc).map (fun d => d.parameters.length) = some 4), ⟨wk_1100, trivial⟩, wk_1101⟩⟩⟩) (all_c (kc_231 hl wk_1628) (all_c (⟨cL_house, 4, some .int, fun y hy => by subst hy; exact ⟨Nat.le_of_ble_eq_true rfl, ⟨_, wk_1109, okL_house hl, Or.inr ⟨rfl, _, rfl⟩⟩, wk_58, nc16, ⟨(by decide +kernel : (parseMethodDescriptor yL_house.desc).map (fun d => d.parameters.length) = some 3), ⟨wk_1107, trivial⟩, wk_1108⟩⟩⟩) (all_c (kc_232 hl wk_1641) (all_c (kc_233 hl wk_129) (all_c (kc_234 hl wk_1650) (all_c (kc_134 hl wk_133) (all_c (kc_235 hl wk_1654) (all_c (kc_236 hl wk_244) (all_c (kc_237 hl wk_1658) (all_n)))))))))))))))))))))))))))))))))))))))))))))))))))))))))))))))))))))))))))))))))))))))))))))))))))))) all_n all_n (fun h => absurd rfl h) rfl all_n
end
/-! 69p.pil5.lean.txt -/
section
section
variable {g : RO} {Q : Ot → Hw → Prop} {w0 w : Hw}
variable {y nM : Nat} {kd : Int32}
theorem ext.k1 {w' : Hw} {a : Nat} {o : Ob} (k : ext g w w') (h : w a = some o) : w' a = some o := k.1 a o h
theorem sNext1 {q L D cap b : Nat} {c lr n mc : Int32} {h : Nat → Option Nat} (hq : w q = some (.inr (2, [.int c, .int lr, .int mc, .ref L]))) (hL : w L = some (.inr (3, [.int mc, .ref D, .int n]))) (rD : rd g w D = some (.inl (5, cap, qc h))) (k0 : 0 ≤ c.toInt) (k1 : c.toInt < n.toInt) (hn : n.toInt ≤ (cap : Int)) (hc : cap ≤ 15) (hb : h c.toNatClampNeg = some b) (hR : Q (.inl (some (.ref b))) (upw w q (.inr (2, [.int (c + 1), .int c, .int mc, .ref L])))) : WP (MJx35411_next_0502b g) Q (0, [some (.ref q), none, none], [], w, 0, 0) := sJx35411_next_0502b hq hL rD k0 k1 hn hc (fun e => by
  rw [hb] at e
  cases e) (fun b9 e => by
  rw [hb] at e
  cases e
  exact hR)
theorem sIter1 {L D cap : Nat} {mc n : Int32} {h : Nat → Option Nat} (hl : LL g w L D cap n h) (hL : w L = some (.inr (3, [.int mc, .ref D, .int n]))) (hQ : ∀ q, rd g w q = none → Q (.inl (some (.ref q))) (upw w q (.inr (2, [.int 0, .int (-1), .int mc, .ref L])))) : WP (MJx4a65c_iterator_32c93 g) Q (0, [some (.ref L)], [], w, 0, 0) := sJx4a65c_iterator_32c93 hl (fun q mc9 e hq => by
  rw [hL] at e
  cases e
  exact hQ q hq)
end
end
/-! 69p.pil6.lean.txt -/
section
section
variable {g : RO} {Q : Ot → Hw → Prop} {w0 w : Hw}
variable {y nM : Nat} {kd : Int32}
theorem sX3_fixedV {g : RO} {Q : Ot → Hw → Prop} {w : Hw} {p : Nat} (hp : isRow w p) (hQ : ∀ v : Int32, Q (.inl (some (.int v))) w) : WP (MX3_fixed g) Q (0, [some (.ref p)], [], w, 0, 0) := sX3_fixed hp (hQ 1) (hQ 0)
theorem sX3_smallV {g : RO} {Q : Ot → Hw → Prop} {w : Hw} {p : Nat} (hp : isRow w p) (hQ : ∀ v : Int32, Q (.inl (some (.int v))) w) : WP (MX3_small g) Q (0, [some (.ref p)], [], w, 0, 0) := sX3_small hp (hQ 1) (hQ 0)
theorem sX3_validV {g : RO} {Q : Ot → Hw → Prop} {w : Hw} {p : Nat} {a : Int64} {b : Int32} (hp : isRow w p) (hQ : ∀ v : Int32, Q (.inl (some (.int v))) w) : WP (MX3_valid g) Q (0, [some (.ref p), some (.long a), none, some (.int b)], [], w, 0, 0) := sX3_valid hp (hQ 1) (hQ 0)
theorem ext_up3 {w1 : Hw} {q : Nat} {o : Ob} (h : ext g w w1) (hq : rd g w1 q = none) : ext g w (upw w1 q o) := ext_up2 h (by
  have e : w q = none := by
    cases e : w q with
    | none => rfl
    | some o2 =>
      have e2 := rd_none hq
      rw [h.1 _ _ e] at e2
      cases e2
  unfold rd
  rw [e]
  exact rd_ro hq)
theorem ext_n {w' : Hw} {a : Nat} (k : ext g w w') (h : w' a = none) : w a = none := by
  cases e : w a with
  | none => rfl
  | some o =>
    rw [k.1 _ _ e] at h
    cases h
theorem pz1 {i n : Int32} {k : Nat} (h : i < n) (hk : (k : Int) ≤ i.toInt) (hn : 0 ≤ n.toInt ∧ n.toInt ≤ 12) : k + 1 ≤ 12 := by
  have := i32_lt h
  omega
theorem pz6 {i n : Int32} {k : Nat} (h : i < n) (hk : (k : Int) ≤ 6 * i.toInt) (hn : 0 ≤ n.toInt ∧ n.toInt ≤ 12) : k + 6 ≤ 72 := by
  have := i32_lt h
  omega
theorem pz1e {i n : Int32} {k : Nat} (h : ¬ i < n) (hn : 0 ≤ n.toInt ∧ n.toInt ≤ 12) (hi : i.toInt ≤ n.toInt) (hk : (k : Int) ≤ i.toInt) : k ≤ 12 := by
  omega
theorem pz6e {i n : Int32} {k : Nat} (h : ¬ i < n) (hn : 0 ≤ n.toInt ∧ n.toInt ≤ 12) (hi : i.toInt ≤ n.toInt) (hk : (k : Int) ≤ 6 * i.toInt) : k ≤ 72 := by
  omega
theorem pz_n {i n : Int32} (h : i < n) : (i + 1).toInt ≤ n.toInt := by
  rw [i32_s h]
  have := i32_lt h
  omega
theorem n6e : (6 : Int32).toNatClampNeg = 6 := rfl
theorem n6a : ¬ (6 : Int32) < 0 := by decide
theorem vpi6x : vp_in 0 6 ∧ vp_in 1 6 ∧ vp_in 2 6 ∧ vp_in 3 6 ∧ vp_in 4 6 ∧ vp_in 5 6 := ⟨vpiM (by decide) (by decide), vpiM (by decide) (by decide), vpiM (by decide) (by decide), vpiM (by decide) (by decide), vpiM (by decide) (by decide), vpiM (by decide) (by decide)⟩
theorem n5e : (5 : Int32).toNatClampNeg = 5 := rfl
theorem n5a : ¬ (5 : Int32) < 0 := by decide
theorem vpi5x : vp_in 0 5 ∧ vp_in 1 5 ∧ vp_in 2 5 ∧ vp_in 3 5 ∧ vp_in 4 5 := ⟨vpiM (by decide) (by decide), vpiM (by decide) (by decide), vpiM (by decide) (by decide), vpiM (by decide) (by decide), vpiM (by decide) (by decide)⟩
theorem vpi5n {a : Int32} (h0 : ¬ a < 0) (h1 : ¬ 4 < a) : vp_in a 5 := vpiM (i32_0 h0) (by
  have h := i32_nlt h1
  have e : (4 : Int32).toInt = 4 := rfl
  omega)
set_option maxHeartbeats 8000000 in
theorem lX3_pileNow_5 {a c n : Int32} (hM : MM g w0 y nM kd w) (hP : PN g w y n) (k0 : ¬ a < 0) (k1 : ¬ 7 < a) (c0 : ¬ c < 0) (c1 : ¬ 5 < c) (hQ : ∀ (v : Int32) w', ext g w w' → Q (.inl (some (.int v))) w') : ∀ (d : Nat) (i3 i4 : Int32) (o5 o6 : Option Value) (w' : Hw) (k m : Nat), ¬ i4 < 0 → ext g w w' → n.toInt - i4.toInt ≤ (d : Int) → i4.toInt ≤ n.toInt → (k : Int) ≤ i4.toInt → (m : Int) ≤ 6 * i4.toInt → WP (MX3_pileNow g) Q (5, [some (.ref y), some (.int a), some (.int c), some (.int i3), some (.int i4), o5, o6], [], w', k, m) := by
  have hnb := hP.bd
  intro d
  induction d with
  | zero =>
    intro i3 i4 o5 o6 w' k m z0 hk hm hi km mm
    rw [eX3_pileNow_5]
    simp only [eX3_pileNow_7, eX3_pileNow_8]
    with_reducible refine go_Y (hM.ext' (by first | assumption | exact ext.rf | exact ext_up2 ext.rf (by assumption) | exact ext_up3 (by assumption) (by assumption) | exact ext_up3 (ext_up2 ext.rf (by assumption)) (by assumption))) (fun _ _ _ _ _ _ => ?_)
    simp only [eX3_pileNow_11, wt_nil, wt_int, g0, gS, ex1, Nat.add_zero]
    with_reducible refine And.intro ?_ ?_
    with_reducible exact gtP (hM.ext' (by first | assumption | exact ext.rf | exact ext_up2 ext.rf (by assumption) | exact ext_up3 (by assumption) (by assumption) | exact ext_up3 (ext_up2 ext.rf (by assumption)) (by assumption))) (by first | assumption | exact isY.s | exact isY.fr (by assumption) (by assumption))
    with_reducible refine And.intro ?_ ?_
    omega
    with_reducible refine And.intro ?_ ?_
    omega
    with_reducible refine And.intro ?_ ?_
    omega
    with_reducible refine sSizeY (hP.ext (by first | assumption | exact ext.rf | exact ext_up2 ext.rf (by assumption) | exact ext_up3 (by assumption) (by assumption) | exact ext_up3 (ext_up2 ext.rf (by assumption)) (by assumption))) (by first | assumption | exact isY.s | exact isY.fr (by assumption) (by assumption)) ?_
    simp only [eX3_pileNow_14, eX3_pileNow_17, eX3_pileNow_18, eX3_pileNow_21, eX3_pileNow_112, ite_le, kx_l, tl_s]
    split
    with_reducible exact (ic_z (by assumption) (by assumption)).elim
    with_reducible refine And.intro ?_ ?_
    with_reducible exact pz1e (by assumption) hnb (by assumption) (by assumption)
    with_reducible refine And.intro ?_ ?_
    with_reducible exact pz6e (by assumption) hnb (by assumption) (by assumption)
    with_reducible exact hQ _ _ (by first | assumption | exact ext.rf | exact ext_up2 ext.rf (by assumption) | exact ext_up3 (by assumption) (by assumption) | exact ext_up3 (ext_up2 ext.rf (by assumption)) (by assumption))
  | succ d ih =>
    intro i3 i4 o5 o6 w' k m z0 hk hm hi km mm
    rw [eX3_pileNow_5]
    simp only [eX3_pileNow_7, eX3_pileNow_8]
    with_reducible refine go_Y (hM.ext' (by first | assumption | exact ext.rf | exact ext_up2 ext.rf (by assumption) | exact ext_up3 (by assumption) (by assumption) | exact ext_up3 (ext_up2 ext.rf (by assumption)) (by assumption))) (fun _ _ _ _ _ _ => ?_)
    simp only [eX3_pileNow_11, wt_nil, wt_int, g0, gS, ex1, Nat.add_zero]
    with_reducible refine And.intro ?_ ?_
    with_reducible exact gtP (hM.ext' (by first | assumption | exact ext.rf | exact ext_up2 ext.rf (by assumption) | exact ext_up3 (by assumption) (by assumption) | exact ext_up3 (ext_up2 ext.rf (by assumption)) (by assumption))) (by first | assumption | exact isY.s | exact isY.fr (by assumption) (by assumption))
    with_reducible refine And.intro ?_ ?_
    omega
    with_reducible refine And.intro ?_ ?_
    omega
    with_reducible refine And.intro ?_ ?_
    omega
    with_reducible refine sSizeY (hP.ext (by first | assumption | exact ext.rf | exact ext_up2 ext.rf (by assumption) | exact ext_up3 (by assumption) (by assumption) | exact ext_up3 (ext_up2 ext.rf (by assumption)) (by assumption))) (by first | assumption | exact isY.s | exact isY.fr (by assumption) (by assumption)) ?_
    simp only [eX3_pileNow_14, eX3_pileNow_17, eX3_pileNow_18, eX3_pileNow_21, eX3_pileNow_112, ite_le, kx_l, tl_s]
    split
    with_reducible refine go_Y (hM.ext' (by first | assumption | exact ext.rf | exact ext_up2 ext.rf (by assumption) | exact ext_up3 (by assumption) (by assumption) | exact ext_up3 (ext_up2 ext.rf (by assumption)) (by assumption))) (fun _ _ _ _ _ _ => ?_)
    simp only [eX3_pileNow_23, wt_nil, g0, gS, ex1, Nat.add_zero]
    with_reducible refine And.intro ?_ ?_
    with_reducible exact gtP (hM.ext' (by first | assumption | exact ext.rf | exact ext_up2 ext.rf (by assumption) | exact ext_up3 (by assumption) (by assumption) | exact ext_up3 (ext_up2 ext.rf (by assumption)) (by assumption))) (by first | assumption | exact isY.s | exact isY.fr (by assumption) (by assumption))
    with_reducible refine And.intro ?_ ?_
    omega
    with_reducible refine And.intro ?_ ?_
    omega
    with_reducible refine And.intro ?_ ?_
    omega
    with_reducible refine sGetP (hP.ext (by first | assumption | exact ext.rf | exact ext_up2 ext.rf (by assumption) | exact ext_up3 (by assumption) (by assumption) | exact ext_up3 (ext_up2 ext.rf (by assumption)) (by assumption))) (by first | assumption | exact isY.s | exact isY.fr (by assumption) (by assumption)) (by assumption) (by assumption) (fun _ _ => ?_)
    simp only [eX3_pileNow_26R, eX3_pileNow_29, eX3_pileNow_31, eX3_pileNow_35R, eX3_pileNow_36, eX3_pileNow_39R, eX3_pileNow_40, eX3_pileNow_41, eX3_pileNow_43, eX3_pileNow_44, eX3_pileNow_47, kx_l, gb_s3, nl_int, tl_s, upw_s, n6e, upw2q]
    with_reducible refine And.intro ?_ ?_
    with_reducible exact isRow.ca (by first | assumption | exact isRow.ext (by assumption) (ext_up2 ext.rf (by assumption)))
    with_reducible refine And.intro ?_ ?_
    with_reducible exact n6a
    with_reducible refine And.intro ?_ ?_
    omega
    with_reducible refine And.intro ?_ ?_
    with_reducible exact pz1 (by assumption) (by assumption) hnb
    with_reducible refine And.intro ?_ ?_
    with_reducible exact pz6 (by assumption) (by assumption) hnb
    with_reducible intro _
    with_reducible intro _
    with_reducible refine And.intro ?_ ?_
    with_reducible exact vpi6x.1
    with_reducible refine go_Y (hM.ext' (by first | assumption | exact ext.rf | exact ext_up2 ext.rf (by assumption) | exact ext_up3 (by assumption) (by assumption) | exact ext_up3 (ext_up2 ext.rf (by assumption)) (by assumption))) (fun _ _ _ _ _ _ => ?_)
    simp only [eX3_pileNow_48, eX3_pileNow_49, eX3_pileNow_50R, wt_nil, wt_int, wt_ref, g0, gS, ex1, Nat.add_zero]
    with_reducible refine gl_M (hM.ext' (by first | assumption | exact ext.rf | exact ext_up2 ext.rf (by assumption) | exact ext_up3 (by assumption) (by assumption) | exact ext_up3 (ext_up2 ext.rf (by assumption)) (by assumption))) ?_
    with_reducible intro _
    with_reducible refine And.intro ?_ ?_
    with_reducible exact vpi8n k0 k1
    with_reducible refine And.intro ?_ ?_
    omega
    with_reducible refine And.intro ?_ ?_
    with_reducible exact pz1 (by assumption) (by assumption) hnb
    with_reducible refine And.intro ?_ ?_
    with_reducible exact pz6 (by assumption) (by assumption) hnb
    with_reducible refine sX3_validV (by first | assumption | exact isRow.ext (by assumption) (ext_up2 ext.rf (by assumption))) (fun _ => ?_)
    simp only [eX3_pileNow_53, eX3_pileNow_54R, eX3_pileNow_55, eX3_pileNow_56, eX3_pileNow_58, eX3_pileNow_59, eX3_pileNow_62, kx_l, gb_s3, tl_s, upw_s, upw2q]
    with_reducible refine And.intro ?_ ?_
    with_reducible exact vpi6x.2.1
    with_reducible refine go_Y (hM.ext' (by first | assumption | exact ext.rf | exact ext_up2 ext.rf (by assumption) | exact ext_up3 (by assumption) (by assumption) | exact ext_up3 (ext_up2 ext.rf (by assumption)) (by assumption))) (fun _ _ _ _ _ _ => ?_)
    simp only [eX3_pileNow_63, eX3_pileNow_64, eX3_pileNow_65R, wt_nil, wt_int, wt_ref, g0, gS, ex1, Nat.add_zero]
    with_reducible refine gl_M (hM.ext' (by first | assumption | exact ext.rf | exact ext_up2 ext.rf (by assumption) | exact ext_up3 (by assumption) (by assumption) | exact ext_up3 (ext_up2 ext.rf (by assumption)) (by assumption))) ?_
    with_reducible intro _
    with_reducible refine And.intro ?_ ?_
    with_reducible exact vpi8n k0 k1
    with_reducible refine And.intro ?_ ?_
    omega
    with_reducible refine And.intro ?_ ?_
    with_reducible exact pz1 (by assumption) (by assumption) hnb
    with_reducible refine And.intro ?_ ?_
    with_reducible exact pz6 (by assumption) (by assumption) hnb
    with_reducible refine sX3_validV (by first | assumption | exact isRow.ext (by assumption) (ext_up2 ext.rf (by assumption))) (fun _ => ?_)
    simp only [eX3_pileNow_68, eX3_pileNow_69R, eX3_pileNow_70, eX3_pileNow_71, eX3_pileNow_73R, kx_l, gb_s3, wt_nil, wt_int, wt_ref, tl_s, upw_s, Nat.add_zero, upw2q]
    with_reducible refine And.intro ?_ ?_
    with_reducible exact vpi6x.2.2.1
    with_reducible refine And.intro ?_ ?_
    omega
    with_reducible refine And.intro ?_ ?_
    with_reducible exact pz1 (by assumption) (by assumption) hnb
    with_reducible refine And.intro ?_ ?_
    with_reducible exact pz6 (by assumption) (by assumption) hnb
    with_reducible refine sX3_fixedV (by first | assumption | exact isRow.ext (by assumption) (ext_up2 ext.rf (by assumption))) (fun _ => ?_)
    simp only [eX3_pileNow_76, eX3_pileNow_77R, eX3_pileNow_78, eX3_pileNow_79, eX3_pileNow_81R, kx_l, gb_s3, wt_nil, wt_int, wt_ref, tl_s, upw_s, Nat.add_zero, upw2q]
    with_reducible refine And.intro ?_ ?_
    with_reducible exact vpi6x.2.2.2.1
    with_reducible refine And.intro ?_ ?_
    omega
    with_reducible refine And.intro ?_ ?_
    with_reducible exact pz1 (by assumption) (by assumption) hnb
    with_reducible refine And.intro ?_ ?_
    with_reducible exact pz6 (by assumption) (by assumption) hnb
    with_reducible refine sX3_smallV (by first | assumption | exact isRow.ext (by assumption) (ext_up2 ext.rf (by assumption))) (fun _ => ?_)
    simp only [eX3_pileNow_84, eX3_pileNow_85R, eX3_pileNow_86, eX3_pileNow_87, eX3_pileNow_88, kx_l, gb_s3, wt_nil, wt_int, wt_ref, tl_s, upw_s, Nat.add_zero, upw2q]
    with_reducible refine And.intro ?_ ?_
    with_reducible exact vpi6x.2.2.2.2.1
    with_reducible refine And.intro ?_ ?_
    with_reducible refine go_Y (hM.ext' (by first | assumption | exact ext.rf | exact ext_up2 ext.rf (by assumption) | exact ext_up3 (by assumption) (by assumption) | exact ext_up3 (ext_up2 ext.rf (by assumption)) (by assumption))) (fun _ _ _ _ _ _ => ?_)
    simp only []
    with_reducible refine And.intro ?_ ?_
    omega
    with_reducible refine And.intro ?_ ?_
    with_reducible exact pz1 (by assumption) (by assumption) hnb
    with_reducible refine And.intro ?_ ?_
    with_reducible exact pz6 (by assumption) (by assumption) hnb
    with_reducible refine sX3_isAhead (hM.ext' (by first | assumption | exact ext.rf | exact ext_up2 ext.rf (by assumption) | exact ext_up3 (by assumption) (by assumption) | exact ext_up3 (ext_up2 ext.rf (by assumption)) (by assumption))) (hP.ext (by first | assumption | exact ext.rf | exact ext_up2 ext.rf (by assumption) | exact ext_up3 (by assumption) (by assumption) | exact ext_up3 (ext_up2 ext.rf (by assumption)) (by assumption))) (by assumption) (by assumption) (fun _ => ?_)
    simp only [eX3_pileNow_93, eX3_pileNow_94, eX3_pileNow_96, eX3_pileNow_97, eX3_pileNow_99, eX3_pileNow_101, kx_l, gb_s3, wt_nil, wt_int, nl_ref, tl_s, rd_s, upw_s, Nat.add_zero, upw2q]
    with_reducible refine And.intro ?_ ?_
    with_reducible exact vpi6x.2.2.2.2.2
    with_reducible refine And.intro ?_ ?_
    with_reducible exact vpi6n c0 c1
    with_reducible refine And.intro ?_ ?_
    omega
    with_reducible refine And.intro ?_ ?_
    with_reducible exact pz1 (by assumption) (by assumption) hnb
    with_reducible refine And.intro ?_ ?_
    with_reducible exact pz6 (by assumption) (by assumption) hnb
    with_reducible refine sX3_one (fun _ => ?_)
    simp only [eX3_pileNow_104, kx_l, nl_int, tl_s]
    with_reducible exact ih _ _ _ _ _ _ _ (ic_p (by assumption) (by assumption)) (by first | assumption | exact ext.rf | exact ext_up2 ext.rf (by assumption) | exact ext_up3 (by assumption) (by assumption) | exact ext_up3 (ext_up2 ext.rf (by assumption)) (by assumption)) (ic_s (by assumption) (by assumption)) (pz_n (by assumption)) (by rw [i32_s (by assumption)]; omega) (by rw [i32_s (by assumption)]; omega)
    with_reducible refine And.intro ?_ ?_
    with_reducible exact pz1e (by assumption) hnb (by assumption) (by assumption)
    with_reducible refine And.intro ?_ ?_
    with_reducible exact pz6e (by assumption) hnb (by assumption) (by assumption)
    with_reducible exact hQ _ _ (by first | assumption | exact ext.rf | exact ext_up2 ext.rf (by assumption) | exact ext_up3 (by assumption) (by assumption) | exact ext_up3 (ext_up2 ext.rf (by assumption)) (by assumption))
set_option maxHeartbeats 4000000 in
theorem sX3_pileNow {a c n : Int32} (hM : MM g w0 y nM kd w) (hP : PN g w y n) (k0 : ¬ a < 0) (k1 : ¬ 7 < a) (c0 : ¬ c < 0) (c1 : ¬ 5 < c) (hQ : ∀ (v : Int32) w', ext g w w' → Q (.inl (some (.int v))) w') : WP (MX3_pileNow g) Q (0, [some (.ref y), some (.int a), some (.int c), none, none, none, none], [], w, 0, 0) := by
  have hnb := hP.bd
  simp only [eX3_pileNow_0, nl_int]
  with_reducible exact lX3_pileNow_5 hM hP k0 k1 c0 c1 hQ 70 _ _ _ _ _ _ _ (by decide) ext.rf hP.m (by have z : (0 : Int32).toInt = 0 := rfl; omega) (by decide) (by decide)
theorem sX3_pileNowM {a c : Int32} (hM : MM g w0 y nM kd w) (k0 : ¬ a < 0) (k1 : ¬ 7 < a) (c0 : ¬ c < 0) (c1 : ¬ 5 < c) (hQ : ∀ (v : Int32) w', ext g w w' → Q (.inl (some (.int v))) w') : WP (MX3_pileNow g) Q (0, [some (.ref y), some (.int a), some (.int c), none, none, none, none], [], w, 0, 0) := by
  obtain ⟨n, hP⟩ := PN.ofM hM
  exact sX3_pileNow hM hP k0 k1 c0 c1 hQ
end
end
/-! 69p.pil7.lean.txt -/
section
section
variable {g : RO} {Q : Ot → Hw → Prop} {w0 w : Hw}
variable {y nM : Nat} {kd : Int32}
set_option maxHeartbeats 4000000 in
theorem lX3_houseNow_10 {a n mc : Int32} {L D2 c2 q : Nat} {h2 : Nat → Option Nat} (hM : MM g w0 y nM kd w) (k0 : ¬ a < 0) (k1 : ¬ 4 < a) (hL : w L = some (.inr (3, [.int mc, .ref D2, .int n]))) (hl : LL g w L D2 c2 n h2) (hr : ∀ i b, h2 i = some b → isRow w b) (hn : n.toInt ≤ 12) (hq : rd g w q = none) (hQ : ∀ (v : Int32) w', ext g w w' → Q (.inl (some (.int v))) w') : ∀ (d : Nat) (i2 c lr : Int32) (o4 : Option Value) (k m : Nat), n.toInt - c.toInt ≤ (d : Int) → 0 ≤ c.toInt → c.toInt ≤ n.toInt → k ≤ 1 → m ≤ 4 → WP (MX3_houseNow g) Q (10, [some (.ref y), some (.int a), some (.int i2), some (.ref q), o4], [], upw w q (.inr (2, [.int c, .int lr, .int mc, .ref L])), k, m) := by
  have hLq : ∀ o, upw w q o L = some (.inr (3, [.int mc, .ref D2, .int n])) := fun o => (ext_up2 ext.rf hq).1 _ _ hL
  intro d
  induction d with
  | zero =>
    intro i2 c lr o4 k m hm c0 c1 hk hs
    rw [eX3_houseNow_10]
    simp only [eX3_houseNow_11, go_s, wt_nil, true_and, rd_s, Nat.add_zero]
    with_reducible refine And.intro ?_ ?_
    omega
    with_reducible refine And.intro ?_ ?_
    omega
    with_reducible refine And.intro ?_ ?_
    omega
    with_reducible refine sJx35411_hasNext_aae02 (cap := 0) (upw_s _ _ _) (hLq _) (fun _ => ?_) (fun _ => ?_)
    simp only [eX3_houseNow_16, eX3_houseNow_19, eX3_houseNow_49, eX3_houseNow_52R, eX3_houseNow_56R, kx_l, go_s, gi_s, wt_nil, tl_s, true_and, rd_s, upw_s, Nat.add_zero, if_true, upw2q, n5e, gi_s]
    with_reducible refine And.intro ?_ ?_
    with_reducible exact n5a
    with_reducible refine And.intro ?_ ?_
    omega
    with_reducible refine And.intro ?_ ?_
    omega
    with_reducible refine And.intro ?_ ?_
    omega
    with_reducible intro _
    with_reducible intro _
    with_reducible refine And.intro ?_ ?_
    with_reducible exact vpi5x.1
    with_reducible refine go_Y (hM.ext' (by first | assumption | exact ext.rf | exact ext_up2 ext.rf (by assumption) | exact ext_up3 (by assumption) (by assumption) | exact ext_up3 (ext_up2 ext.rf (by assumption)) (by assumption))) (fun _ _ _ _ _ _ => ?_)
    simp only [eX3_houseNow_62, wt_nil, wt_int, wt_ref, g0, gS, ex1, Nat.add_zero]
    with_reducible refine And.intro ?_ ?_
    with_reducible exact gtP (hM.ext' (by first | assumption | exact ext.rf | exact ext_up2 ext.rf (by assumption) | exact ext_up3 (by assumption) (by assumption) | exact ext_up3 (ext_up2 ext.rf (by assumption)) (by assumption))) (by first | assumption | exact isY.s | exact isY.fr (by assumption) (by assumption))
    with_reducible refine And.intro ?_ ?_
    omega
    with_reducible refine And.intro ?_ ?_
    omega
    with_reducible refine And.intro ?_ ?_
    omega
    with_reducible refine sSizeM (hM.ext' (by first | assumption | exact ext.rf | exact ext_up2 ext.rf (by assumption) | exact ext_up3 (by assumption) (by assumption) | exact ext_up3 (ext_up2 ext.rf (by assumption)) (by assumption))) (by first | assumption | exact isY.s | exact isY.fr (by assumption) (by assumption)) (fun _ _ => ?_)
    simp only [eX3_houseNow_65, eX3_houseNow_66R, kx_l, gi_s, tl_s, upw_s, upw2q, gi_s]
    with_reducible refine And.intro ?_ ?_
    with_reducible exact vpi5x.2.1
    with_reducible refine go_Y (hM.ext' (by first | assumption | exact ext.rf | exact ext_up2 ext.rf (by assumption) | exact ext_up3 (by assumption) (by assumption) | exact ext_up3 (ext_up2 ext.rf (by assumption)) (by assumption))) (fun _ _ _ _ _ _ => ?_)
    simp only [eX3_houseNow_72, eX3_houseNow_73R, gi_s, g0, gS, ex1, upw_s, upw2q, gi_s]
    with_reducible refine And.intro ?_ ?_
    with_reducible exact vpi5x.2.2.1
    with_reducible refine go_Y (hM.ext' (by first | assumption | exact ext.rf | exact ext_up2 ext.rf (by assumption) | exact ext_up3 (by assumption) (by assumption) | exact ext_up3 (ext_up2 ext.rf (by assumption)) (by assumption))) (fun _ _ _ _ _ _ => ?_)
    simp only [eX3_houseNow_79, eX3_houseNow_80R, gi_s, g0, gS, ex1, upw_s, upw2q, gi_s]
    with_reducible refine And.intro ?_ ?_
    with_reducible exact vpi5x.2.2.2.1
    with_reducible refine go_Y (hM.ext' (by first | assumption | exact ext.rf | exact ext_up2 ext.rf (by assumption) | exact ext_up3 (by assumption) (by assumption) | exact ext_up3 (ext_up2 ext.rf (by assumption)) (by assumption))) (fun _ _ _ _ _ _ => ?_)
    simp only [eX3_houseNow_86, eX3_houseNow_87, eX3_houseNow_91, gi_s, nl_int, g0, gS, ex1, rd_s, upw_s, upw2q, gi_s]
    with_reducible refine And.intro ?_ ?_
    with_reducible exact vpi5x.2.2.2.2
    with_reducible refine And.intro ?_ ?_
    with_reducible exact vpi5n k0 k1
    with_reducible refine And.intro ?_ ?_
    omega
    with_reducible refine And.intro ?_ ?_
    omega
    with_reducible exact hQ _ _ (by first | assumption | exact ext.rf | exact ext_up2 ext.rf (by assumption) | exact ext_up3 (by assumption) (by assumption) | exact ext_up3 (ext_up2 ext.rf (by assumption)) (by assumption))
    with_reducible exact (itz (by assumption) (by assumption) (by assumption)).elim
  | succ d ih =>
    intro i2 c lr o4 k m hm c0 c1 hk hs
    rw [eX3_houseNow_10]
    simp only [eX3_houseNow_11, go_s, wt_nil, true_and, rd_s, Nat.add_zero]
    with_reducible refine And.intro ?_ ?_
    omega
    with_reducible refine And.intro ?_ ?_
    omega
    with_reducible refine And.intro ?_ ?_
    omega
    with_reducible refine sJx35411_hasNext_aae02 (cap := 0) (upw_s _ _ _) (hLq _) (fun _ => ?_) (fun _ => ?_)
    simp only [eX3_houseNow_16, eX3_houseNow_19, eX3_houseNow_49, eX3_houseNow_52R, eX3_houseNow_56R, kx_l, go_s, gi_s, wt_nil, tl_s, true_and, rd_s, upw_s, Nat.add_zero, if_true, upw2q, n5e, gi_s]
    with_reducible refine And.intro ?_ ?_
    with_reducible exact n5a
    with_reducible refine And.intro ?_ ?_
    omega
    with_reducible refine And.intro ?_ ?_
    omega
    with_reducible refine And.intro ?_ ?_
    omega
    with_reducible intro _
    with_reducible intro _
    with_reducible refine And.intro ?_ ?_
    with_reducible exact vpi5x.1
    with_reducible refine go_Y (hM.ext' (by first | assumption | exact ext.rf | exact ext_up2 ext.rf (by assumption) | exact ext_up3 (by assumption) (by assumption) | exact ext_up3 (ext_up2 ext.rf (by assumption)) (by assumption))) (fun _ _ _ _ _ _ => ?_)
    simp only [eX3_houseNow_62, wt_nil, wt_int, wt_ref, g0, gS, ex1, Nat.add_zero]
    with_reducible refine And.intro ?_ ?_
    with_reducible exact gtP (hM.ext' (by first | assumption | exact ext.rf | exact ext_up2 ext.rf (by assumption) | exact ext_up3 (by assumption) (by assumption) | exact ext_up3 (ext_up2 ext.rf (by assumption)) (by assumption))) (by first | assumption | exact isY.s | exact isY.fr (by assumption) (by assumption))
    with_reducible refine And.intro ?_ ?_
    omega
    with_reducible refine And.intro ?_ ?_
    omega
    with_reducible refine And.intro ?_ ?_
    omega
    with_reducible refine sSizeM (hM.ext' (by first | assumption | exact ext.rf | exact ext_up2 ext.rf (by assumption) | exact ext_up3 (by assumption) (by assumption) | exact ext_up3 (ext_up2 ext.rf (by assumption)) (by assumption))) (by first | assumption | exact isY.s | exact isY.fr (by assumption) (by assumption)) (fun _ _ => ?_)
    simp only [eX3_houseNow_65, eX3_houseNow_66R, kx_l, gi_s, tl_s, upw_s, upw2q, gi_s]
    with_reducible refine And.intro ?_ ?_
    with_reducible exact vpi5x.2.1
    with_reducible refine go_Y (hM.ext' (by first | assumption | exact ext.rf | exact ext_up2 ext.rf (by assumption) | exact ext_up3 (by assumption) (by assumption) | exact ext_up3 (ext_up2 ext.rf (by assumption)) (by assumption))) (fun _ _ _ _ _ _ => ?_)
    simp only [eX3_houseNow_72, eX3_houseNow_73R, gi_s, g0, gS, ex1, upw_s, upw2q, gi_s]
    with_reducible refine And.intro ?_ ?_
    with_reducible exact vpi5x.2.2.1
    with_reducible refine go_Y (hM.ext' (by first | assumption | exact ext.rf | exact ext_up2 ext.rf (by assumption) | exact ext_up3 (by assumption) (by assumption) | exact ext_up3 (ext_up2 ext.rf (by assumption)) (by assumption))) (fun _ _ _ _ _ _ => ?_)
    simp only [eX3_houseNow_79, eX3_houseNow_80R, gi_s, g0, gS, ex1, upw_s, upw2q, gi_s]
    with_reducible refine And.intro ?_ ?_
    with_reducible exact vpi5x.2.2.2.1
    with_reducible refine go_Y (hM.ext' (by first | assumption | exact ext.rf | exact ext_up2 ext.rf (by assumption) | exact ext_up3 (by assumption) (by assumption) | exact ext_up3 (ext_up2 ext.rf (by assumption)) (by assumption))) (fun _ _ _ _ _ _ => ?_)
    simp only [eX3_houseNow_86, eX3_houseNow_87, eX3_houseNow_91, gi_s, nl_int, g0, gS, ex1, rd_s, upw_s, upw2q, gi_s]
    with_reducible refine And.intro ?_ ?_
    with_reducible exact vpi5x.2.2.2.2
    with_reducible refine And.intro ?_ ?_
    with_reducible exact vpi5n k0 k1
    with_reducible refine And.intro ?_ ?_
    omega
    with_reducible refine And.intro ?_ ?_
    omega
    with_reducible exact hQ _ _ (by first | assumption | exact ext.rf | exact ext_up2 ext.rf (by assumption) | exact ext_up3 (by assumption) (by assumption) | exact ext_up3 (ext_up2 ext.rf (by assumption)) (by assumption))
    simp only [eX3_houseNow_16, eX3_houseNow_19, eX3_houseNow_49, eX3_houseNow_52R, eX3_houseNow_56R, kx_l, go_s, gi_s, wt_nil, tl_s, true_and, rd_s, upw_s, Nat.add_zero, if_false, m10, upw2q, n5e, gi_s]
    with_reducible refine And.intro ?_ ?_
    omega
    with_reducible refine And.intro ?_ ?_
    omega
    with_reducible refine And.intro ?_ ?_
    omega
    with_reducible refine sJx35411_next_0502b (upw_s _ _ _) (hLq _) (hl.nq hq _).rD (by assumption) (itl (by assumption) (by assumption)) hl.nc hl.c15 (fun _ => ?_) (fun _ _ => ?_)
    simp only [eX3_houseNow_25N, eX3_houseNow_28N, eX3_houseNow_30, eX3_houseNow_31N, eX3_houseNow_33N, eX3_houseNow_40, eX3_houseNow_41, kx_l, wt_nil, wt_int, nl_ref, tl_s, Nat.add_zero, upw2q]
    with_reducible refine And.intro ?_ ?_
    omega
    with_reducible refine And.intro ?_ ?_
    omega
    with_reducible refine And.intro ?_ ?_
    omega
    with_reducible refine sX3_one (fun _ => ?_)
    simp only [eX3_houseNow_44, kx_l, nl_int, tl_s]
    with_reducible exact ih _ _ _ _ _ _ (by have e := its (n := n) (by assumption) (by assumption) (by assumption) (by omega); omega) (by have e := its (n := n) (by assumption) (by assumption) (by assumption) (by omega); omega) (by have e := its (n := n) (by assumption) (by assumption) (by assumption) (by omega); omega) (by first | assumption | omega) (by first | assumption | omega)
    simp only [eX3_houseNow_25R, eX3_houseNow_28, eX3_houseNow_30, eX3_houseNow_31, eX3_houseNow_33R, eX3_houseNow_36, eX3_houseNow_41, kx_l, wt_nil, wt_int, nl_ref, tl_s, Nat.add_zero, upw2q]
    with_reducible refine And.intro ?_ ?_
    with_reducible exact isRow.ca ((hr _ _ (by assumption)).ext (ext_up2 ext.rf hq))
    with_reducible refine And.intro ?_ ?_
    omega
    with_reducible refine And.intro ?_ ?_
    omega
    with_reducible refine And.intro ?_ ?_
    omega
    with_reducible refine sX3_one (fun _ => ?_)
    simp only [eX3_houseNow_44, kx_l, nl_int, tl_s]
    with_reducible exact ih _ _ _ _ _ _ (by have e := its (n := n) (by assumption) (by assumption) (by assumption) (by omega); omega) (by have e := its (n := n) (by assumption) (by assumption) (by assumption) (by omega); omega) (by have e := its (n := n) (by assumption) (by assumption) (by assumption) (by omega); omega) (by first | assumption | omega) (by first | assumption | omega)
set_option maxHeartbeats 4000000 in
theorem sX3_houseNow {a : Int32} (hM : MM g w0 y nM kd w) (k0 : ¬ a < 0) (k1 : ¬ 4 < a) (hQ : ∀ (v : Int32) w', ext g w w' → Q (.inl (some (.int v))) w') : WP (MX3_houseNow g) Q (0, [some (.ref y), some (.int a), none, none, none], [], w, 0, 0) := by
  obtain ⟨cL0, pL0, D1, D2, c1, c2, th, rf, md, n, f, h1, h2, a1, a2, a3, a4, a5, a6, a7, a8, a9, b1⟩ := hM.1
  simp only [eX3_houseNow_0, nl_int]
  with_reducible refine go_YE a1 ?_
  simp only [eX3_houseNow_6, wt_nil, g0, gS, ex1, Nat.zero_add]
  with_reducible refine And.intro ?_ ?_
  with_reducible exact a3.gt
  with_reducible refine And.intro ?_ ?_
  omega
  with_reducible refine And.intro ?_ ?_
  omega
  with_reducible refine And.intro ?_ ?_
  omega
  with_reducible refine sJx4a65c_iterator_32c93 a3 (fun _ _ _ _ => ?_)
  simp only [eX3_houseNow_9, kx_l, nl_int, tl_s]
  with_reducible exact lX3_houseNow_10 hM k0 k1 (by assumption) a3 a4 (by decide) (by assumption) hQ 70 _ _ _ _ _ _ (by decide) (by decide) (by decide) (by first | decide | omega) (by first | decide | omega)
end
end
/-! 69p.pil8.lean.txt -/
section
section
variable {g : RO} {Q : Ot → Hw → Prop} {w0 w : Hw}
variable {y nM : Nat} {kd : Int32}
set_option maxHeartbeats 4000000 in
theorem lX3_count_56 {a c e : Int32} {b : Nat} (hM : MM g w0 y nM kd w) (hC : CAt g w y a (some b)) (k0 : ¬ a < 0) (k1 : ¬ 5 < a) (k2 : ¬ 60 < e) (hQ : ∀ v : Int32, Q (.inl (some (.int v))) w) : ∀ (d : Nat) (i4 : Int32) (i5 : Int32) (k m : Nat), (e : Int32).toInt - i5.toInt ≤ (d : Int) → k ≤ 0 → m ≤ 0 → WP (MX3_count g) Q (56, [some (.ref y), some (.int a), some (.int c), some (.int e), some (.int i4), some (.int i5)], [], w, k, m) := by
  intro d
  induction d with
  | zero =>
    intro i4 i5 k m hm hk hs
    rw [eX3_count_56]
    simp only [eX3_count_58, eX3_count_62, eX3_count_68, eX3_count_97, ite_le]
    split
    with_reducible exact (ic_z (by assumption) (by assumption)).elim
    with_reducible refine And.intro ?_ ?_
    with_reducible assumption
    with_reducible refine And.intro ?_ ?_
    with_reducible assumption
    with_reducible exact hQ _
  | succ d ih =>
    intro i4 i5 k m hm hk hs
    rw [eX3_count_56]
    simp only [eX3_count_58, eX3_count_62, eX3_count_68, eX3_count_97, ite_le]
    split
    with_reducible refine go_Y (by first | assumption | exact MMz.m (by assumption) | exact MM.fr (by first | assumption | exact MMz.m (by assumption)) (by assumption) | exact MM.ext' (by assumption) (by assumption) | exact (by assumption : ∀ f', MM g w0 y nM kd (upw _ nM (.inl (0, 8, .inr (.inl f'))))) _ | exact (by assumption : ∀ (th' rf' md' : Int32), MM g w0 y nM kd (upw _ y (.inr (7, [.int th', .ref nM, .ref _, .ref _, .int rf', .int kd, .int md'])))) _ _ _) (fun _ _ _ _ _ _ => ?_)
    simp only [eX3_count_69, wt_nil, wt_int, g0, gS, ex1, Nat.add_zero]
    with_reducible refine And.intro ?_ ?_
    with_reducible exact gtC (by first | assumption | exact MMz.m (by assumption) | exact MM.fr (by first | assumption | exact MMz.m (by assumption)) (by assumption) | exact MM.ext' (by assumption) (by assumption) | exact (by assumption : ∀ f', MM g w0 y nM kd (upw _ nM (.inl (0, 8, .inr (.inl f'))))) _ | exact (by assumption : ∀ (th' rf' md' : Int32), MM g w0 y nM kd (upw _ y (.inr (7, [.int th', .ref nM, .ref _, .ref _, .int rf', .int kd, .int md'])))) _ _ _) (by first | assumption | exact isY.s | exact isY.fr (by assumption) (by assumption))
    with_reducible refine And.intro ?_ ?_
    omega
    with_reducible refine And.intro ?_ ?_
    with_reducible assumption
    with_reducible refine And.intro ?_ ?_
    with_reducible assumption
    with_reducible refine sGetY (by first | assumption | exact CAt.fr (by assumption) (by assumption)) (by first | assumption | exact isY.s | exact isY.fr (by assumption) (by assumption)) (by assumption) (by first | assumption | exact lt65 (by assumption)) ?_
    simp only [eX3_count_72R, eX3_count_75, kx_l, wt_nil, wt_int, tl_s, Nat.add_zero]
    with_reducible refine And.intro ?_ ?_
    with_reducible exact isRow.ca (by first | assumption | exact CAt.row (by assumption) | exact isRow.ext (by assumption) (by assumption))
    with_reducible refine And.intro ?_ ?_
    omega
    with_reducible refine And.intro ?_ ?_
    with_reducible assumption
    with_reducible refine And.intro ?_ ?_
    with_reducible assumption
    with_reducible refine sX3_valid (by first | assumption | exact CAt.row (by assumption) | exact isRow.ext (by assumption) (by assumption)) ?_ ?_
    simp only [eX3_count_85, kx_l, wt_nil, wt_int, tl_s, Nat.add_zero]
    with_reducible refine And.intro ?_ ?_
    omega
    with_reducible refine And.intro ?_ ?_
    with_reducible assumption
    with_reducible refine And.intro ?_ ?_
    with_reducible assumption
    with_reducible refine sX3_one (fun _ => ?_)
    simp only [eX3_count_88, kx_l, nl_int, tl_s]
    with_reducible exact ih _ _ _ _ (ic_s (by assumption) (by assumption)) (by first | assumption | omega) (by first | assumption | omega)
    simp only [eX3_count_85, kx_l, wt_nil, wt_int, tl_s, Nat.add_zero]
    with_reducible refine And.intro ?_ ?_
    omega
    with_reducible refine And.intro ?_ ?_
    with_reducible assumption
    with_reducible refine And.intro ?_ ?_
    with_reducible assumption
    with_reducible refine sX3_one (fun _ => ?_)
    simp only [eX3_count_88, kx_l, nl_int, tl_s]
    with_reducible exact ih _ _ _ _ (ic_s (by assumption) (by assumption)) (by first | assumption | omega) (by first | assumption | omega)
    with_reducible refine And.intro ?_ ?_
    with_reducible assumption
    with_reducible refine And.intro ?_ ?_
    with_reducible assumption
    with_reducible exact hQ _
end
end
/-! 69p.pila.lean.txt -/
section
section
variable {g : RO} {Q : Ot → Hw → Prop} {w0 w : Hw}
variable {y nM : Nat} {kd : Int32}
/-- what the making leaves alone -/
def FI (g : RO) (y : Nat) (w w' : Hw) : Prop := (∀ (a : Nat) (o : Ob), w a = some o → a ≠ y → w' a = some o) ∧ ∀ (a : Nat) (o : Ob), g.2 a = some o → w a = none → w' a = none
theorem FI.ext {y : Nat} {w1 w' : Hw} (h : FI g y w w1) (k : ext g w1 w') : FI g y w w' := ⟨fun a o e n => k.1 _ _ (h.1 a o e n), fun a o e n => k.2 a o e (h.2 a o e n)⟩
theorem FI.up {y : Nat} {w1 : Hw} {o1 o : Ob} (h : FI g y w w1) (hy : w1 y = some o1) : FI g y w (upw w1 y o) := ⟨fun a o e n => by
    rw [upw_n n]
    exact h.1 a o e n, fun a o e n => by
    rw [upw_n]
    · exact h.2 a o e n
    · rintro rfl
      have := h.2 a o e n
      rw [hy] at this
      cases this⟩
theorem FI.eg {y : Nat} {w1 : Hw} (h : FI g y w w1) (hE : EG g w) : EG g w1 := ⟨hE.1.imp fun e z => ⟨z.1, z.2.1, h.2 e _ z.2.1 z.2.2⟩, hE.2⟩
theorem lt66 : ((6 : Int32) < 6) = False := eq_false (by decide)
theorem n8e : (8 : Int32).toNatClampNeg = 8 := rfl
theorem n8a : ¬ (8 : Int32) < 0 := by decide
theorem FI.rf {y : Nat} : FI g y w w := ⟨fun _ _ h _ => h, fun _ _ _ h => h⟩
end
end
/-! 69p.pilb.lean.txt -/
section
section
variable {g : RO} {Q : Ot → Hw → Prop} {w0 w : Hw}
variable {y nM : Nat} {kd : Int32}
theorem DG.fm (h : DG g w0) (hM : MM g w0 y nM kd w) : DG g w := ⟨h.1, h.2.1.imp fun a z => z.imp fun f z => ⟨z.1, z.2.1, hM.2.2 _ _ z.2.1 z.2.2⟩, h.2.2.imp fun a z => z.imp fun f z => ⟨z.1, z.2.1, hM.2.2 _ _ z.2.1 z.2.2⟩⟩
theorem STO.fm {s : Nat} (h : STO g w0 s) (hM : MM g w0 y nM kd w) : STO g w s := by
  obtain ⟨v, M, f, h1, z, a, b, c, d, e⟩ := h
  exact ⟨v, M, f, h1, z, a, hM.2.2 _ _ a b, c, hM.2.2 _ _ c d, e⟩
theorem TS.g1 {b d N : Nat} {c : Int32} (hT : TS g w0 b d N c w) : go (rd g w b) 1 fun _ => True := by
  obtain ⟨_, _, hb2, _, _, _, _, rb2, _⟩ := hT.opn g
  rw [rb2, go_s]
  trivial
theorem MM.ts {b d N : Nat} {c : Int32} {w1 : Hw} (hT : TS g w1 b d N c w) (hM : MM g w0 y nM kd w1) : MM g w0 y nM kd w := hM.ext' hT.1
theorem TS.row {b d N p : Nat} {c : Int32} {w1 : Hw} (hT : TS g w1 b d N c w) (h : isRow w1 p) : isRow w p := h.ext hT.1
/-- the model's own texts -/
def TXT (g : RO) (w : Hw) : Prop := (∃ s, g.1 21 = .ref s ∧ STO g w s ∧ STB g s 0) ∧ (∃ s, g.1 22 = .ref s) ∧ ∃ s, g.1 23 = .ref s ∧ STO g w s ∧ STB g s 1
end
end
/-! 69p.pilc.lean.txt -/
section
section
variable {g : RO} {Q : Ot → Hw → Prop} {w0 w : Hw}
variable {y nM : Nat} {kd : Int32}
theorem lt87 {a : Int32} (h : a < 8) : ¬ 7 < a := by
  have h1 := i32_lt h
  refine i32_of_nlt ?_
  have e : (7 : Int32).toInt = 7 := rfl
  have e6 : (8 : Int32).toInt = 8 := rfl
  omega
end
end
/-! 70.law0.lean.txt -/
section
section
variable {g : RO} {Q : Ot → Hw → Prop} {w : Hw} {x nA cA lA y nM o : Nat} {kn km : Int32}
/-- the object, the reference, what is handed between them; nothing old is written -/
def LWS (g : RO) (w : Hw) (x nA cA lA y nM o : Nat) (kn km : Int32) : Prop := RC w x nA cA lA kn ∧ RMo g w y nM km ∧ nA ≠ nM ∧ (∃ a b : Value, w o = some (.inr (6, [a, b]))) ∧ ∀ (a : Nat) (z : Ob), g.2 a = some z → w a = none
theorem hgo_h {M : MT} {P : St → Prop} {pc : Nat} {L : List (Option Value)} {E : String} {k n h : Nat} {HH : List (Nat × Nat × Nat × Nat)} {NN : List (Nat × String)} (e1 : M.hh = HH) (e2 : M.hnm = NN) (h1 : hfind NN pc E HH = some h) (h2 : E ∈ EX3) (kk : ∀ q : Nat, P (h, L, [.ref q], w, k, n)) : hgo M Q P pc L E w k n := by
  refine ⟨Or.inr h2, ?_⟩
  rw [e1, e2, h1]
  exact kk
theorem LWS.cc (h : LWS g w x nA cA lA y nM o kn km) : CC g w x nA cA lA kn w := ⟨h.1, FC.rf⟩
theorem LWS.mm (h : LWS g w x nA cA lA y nM o kn km) : MM g w y nM km w := ⟨h.2.1, FM.rf⟩
theorem LWS.of {kn' : Int32} {w' : Hw} (h : LWS g w x nA cA lA y nM o kn km) (k : CC g w x nA cA lA kn' w') : LWS g w' x nA cA lA y nM o kn' km := by
  obtain ⟨h1, h2, h3, ⟨a, b, h4⟩, h5⟩ := h
  obtain ⟨n, rf, md, f, gc, gl, r1, r2, -⟩ := h1
  exact ⟨k.1, h2.FC k.2 r2 h3.symm, h3, ⟨a, b, k.2.ne r2 h4 (fun e => by cases e) rfl⟩, fun a z e => k.2.2 a z e (h5 a z e)⟩
theorem LWS.ofM {km' : Int32} {w' : Hw} (h : LWS g w x nA cA lA y nM o kn km) (k : MM g w y nM km' w') : LWS g w' x nA cA lA y nM o kn km' := by
  obtain ⟨h1, h2, h3, ⟨a, b, h4⟩, h5⟩ := h
  obtain ⟨cL, pL, D1, D2, c1, c2, th, rf, md, n, f, q1, q2, a1, a2, -⟩ := h2
  refine ⟨h1.FM k.2 ⟨f, a2⟩ h3, k.1, h3, ⟨a, b, k.2.1 _ _ h4 (ne_of h4 a2 (fun e => by cases e)) rfl⟩, fun a z e => k.2.2 a z e (h5 a z e)⟩
theorem LWS.ext {w' : Hw} (h : LWS g w x nA cA lA y nM o kn km) (k : ext g w w') : LWS g w' x nA cA lA y nM o kn km := h.of (h.cc.ext k)
/-- what is handed on is written -/
theorem LWS.out {a b a' b' : Value} (h : LWS g w x nA cA lA y nM o kn km) (ho : w o = some (.inr (6, [a, b]))) : LWS g (upw w o (.inr (6, [a', b']))) x nA cA lA y nM o kn km := by
  obtain ⟨h1, h2, h3, -, h5⟩ := h
  obtain ⟨n, rf, md, f, gc, gl, r1, r2, r3, r4, r5, r6, r7⟩ := h1
  obtain ⟨cL, pL, D1, D2, c1, c2, th, rf', md', n', f', q1, q2, a1, a2, a3, a4, a5, a6, a7⟩ := h2
  have mv : ∀ {a : Nat} {z : Ob}, w a = some z → (∀ fs, z ≠ .inr (6, fs)) → upw w o (.inr (6, [a', b'])) a = some z := fun e n => by
    rw [upw_n (ne_of e ho (n _))]
    exact e
  have rr : ∀ b, isR w b → isR (upw w o (.inr (6, [a', b']))) b := fun b ⟨r0, r1, r2, r3, hb⟩ => ⟨r0, r1, r2, r3, mv hb (fun _ e => by cases e)⟩
  refine ⟨⟨n, rf, md, f, gc, gl, mv r1 (fun _ e => by cases e), mv r2 (fun _ e => by cases e), mv r3 (fun _ e => by cases e), mv r4 (fun _ e => by cases e), fun i b z => rr b (r5 i b z), fun i b z => rr b (r6 i b z), r7⟩, ⟨cL, pL, D1, D2, c1, c2, th, rf', md', n', f', q1, q2, mv a1 (fun _ e => by cases e), mv a2 (fun _ e => by cases e), a3.up ho (fun _ e => by cases e) (fun _ e => by cases e), fun i b z => isRow_up (a4 i b z) ho (fun _ e => by cases e), a5.up ho (fun _ e => by cases e) (fun _ e => by cases e), fun i b z => isRow_up (a6 i b z) ho (fun _ e => by cases e), a7⟩, h3, ⟨a', b', upw_s _ _ _⟩, fun a z e => ?_⟩
  rw [upw_n]
  · exact h5 a z e
  · rintro rfl
    rw [h5 _ _ e] at ho
    cases ho
/-- what the old cells and numbers hold -/
def RG (g : RO) : Prop := SG g ∧ ((∃ e : Nat, g.1 0 = .ref e ∧ g.2 e = some (.inl (5, 0, qc fun _ => none))) ∧ ∃ mi : Nat, g.1 10 = .ref mi) ∧ ((∃ (a : Nat) (f : Nat → Int32), g.1 2 = .ref a ∧ g.2 a = some (.inl (2, 100, .inl f))) ∧ ∃ (a : Nat) (f : Nat → Int32), g.1 3 = .ref a ∧ g.2 a = some (.inl (2, 100, .inl f))) ∧ (∃ s, g.1 20 = .ref s) ∧ (∃ s, g.1 22 = .ref s) ∧ (∃ s, g.1 21 = .ref s ∧ (∃ (v M : Nat) (f : Nat → Int32) (h z : Value), g.2 s = some (.inr (0, [.ref v, .int 0, h, z])) ∧ g.2 v = some (.inl (2, M, .inl f)) ∧ bOK M f ∧ M ≤ 8) ∧ STB g s 0) ∧ ∃ s, g.1 23 = .ref s ∧ (∃ (v M : Nat) (f : Nat → Int32) (h z : Value), g.2 s = some (.inr (0, [.ref v, .int 0, h, z])) ∧ g.2 v = some (.inl (2, M, .inl f)) ∧ bOK M f ∧ M ≤ 8) ∧ STB g s 1
theorem RG.eg (h : RG g) (k : ∀ (a : Nat) (z : Ob), g.2 a = some z → w a = none) : EG g w := ⟨h.2.1.1.imp fun _ z => ⟨z.1, z.2, k _ _ z.2⟩, h.2.1.2⟩
theorem RG.dg (h : RG g) (k : ∀ (a : Nat) (z : Ob), g.2 a = some z → w a = none) : DG g w := ⟨h.1.1, h.2.2.1.1.imp fun _ z => z.imp fun _ z => ⟨z.1, z.2, k _ _ z.2⟩, h.2.2.1.2.imp fun _ z => z.imp fun _ z => ⟨z.1, z.2, k _ _ z.2⟩⟩
theorem RG.tx (h : RG g) (k : ∀ (a : Nat) (z : Ob), g.2 a = some z → w a = none) : TXT g w := by
  obtain ⟨-, -, -, -, h22, ⟨s, e1, ⟨v, M, f, h, z, q1, q2, q3, q4⟩, e3⟩, s', e1', ⟨v', M', f', h', z', q1', q2', q3', q4'⟩, e3'⟩ := h
  exact ⟨⟨s, e1, ⟨v, M, f, h, z, q1, k _ _ q1, q2, k _ _ q2, q3, q4⟩, e3⟩, h22, s', e1', ⟨v', M', f', h', z', q1', k _ _ q1', q2', k _ _ q2', q3', q4'⟩, e3'⟩
theorem RG.sg (h : RG g) : SG g := h.1
theorem RG.r20 (h : RG g) : ∃ s, g.1 20 = .ref s := h.2.2.2.1
theorem LWS.ro (h : LWS g w x nA cA lA y nM o kn km) : ∀ (a : Nat) (z : Ob), g.2 a = some z → w a = none := h.2.2.2.2
end
end
/-! 71.fn0.lean.txt -/
section
section
variable {g : RO} {Q : Ot → Hw → Prop} {w0 w : Hw} {x nA cA lA : Nat} {kn : Int32}
/-- guards: the goal's head -/
theorem isQ {Q : Ot → Hw → Prop} {o : Ot} {w : Hw} (h : Q o w) : Q o w := h
theorem isWP {M : MT} {Q : Ot → Hw → Prop} {pc k n : Nat} {L : List (Option Value)} {st : List Value} {w : Hw} (h : WP M Q (pc, L, st, w, k, n)) : WP M Q (pc, L, st, w, k, n) := h
abbrev R4 : Type := Int64 × Int64 × Int64 × Int64
theorem i10 : ((1 : Int32) = 0) = False := eq_false (by decide)
theorem i00 : ((0 : Int32) = 0) = True := eq_true rfl
theorem lgp {x y : Int64} : (0 < lg_cmp x y) = (y.toInt < x.toInt) := by
  unfold lg_cmp
  simp only [gt_iff_lt, Int64.lt_iff_toInt_lt, ← Int64.toInt_inj]
  refine propext ?_
  repeat' split
  all_goals (first | (constructor <;> intro h <;> first | assumption | (exfalso; omega) | (exfalso; revert h; decide) | decide))
theorem lgn {x y : Int64} : (lg_cmp x y < 0) = (x.toInt < y.toInt) := by
  unfold lg_cmp
  simp only [gt_iff_lt, Int64.lt_iff_toInt_lt, ← Int64.toInt_inj]
  refine propext ?_
  repeat' split
  all_goals (first | (constructor <;> intro h <;> first | assumption | omega | (exfalso; omega) | (exfalso; revert h; decide) | decide))
theorem lgz {x y : Int64} : (lg_cmp x y = 0) = (x.toInt = y.toInt) := by
  unfold lg_cmp
  simp only [gt_iff_lt, Int64.lt_iff_toInt_lt, ← Int64.toInt_inj]
  refine propext ?_
  repeat' split
  all_goals (first | (constructor <;> intro h <;> first | assumption | omega | (exfalso; omega) | (exfalso; revert h; decide) | decide))
def rAt (w : Hw) (b : Nat) (r : R4) : Prop := w b = some (.inr (4, [.long r.1, .long r.2.1, .long r.2.2.1, .long r.2.2.2]))
theorem rAt.ext {w' : Hw} {b : Nat} {r : R4} (h : rAt w b r) (k : ext g w w') : rAt w' b r := k.1 _ _ h
theorem rAt.isR {b : Nat} {r : R4} (h : rAt w b r) : isR w b := ⟨_, _, _, _, h⟩
theorem go_F {b : Nat} {r : R4} {K : List Value → Prop} (h : rAt w b r) (k : K [.long r.1, .long r.2.1, .long r.2.2.1, .long r.2.2.2]) : go (rd g w b) 4 K := by
  rw [rd_e h, go_s]
  exact k
/-- the four ends are in order -/
abbrev oP (a b c d : Int64) : Prop := a.toInt ≤ b.toInt ∧ c.toInt ≤ d.toInt ∧ a.toInt ≤ c.toInt ∧ b.toInt ≤ d.toInt
abbrev rOk (r : R4) : Prop := oP r.1 r.2.1 r.2.2.1 r.2.2.2
abbrev hP (r : R4) (v : Int64) : Prop := r.1.toInt ≤ v.toInt ∧ v.toInt ≤ r.2.2.2.toInt
abbrev sP (r : R4) : Prop := -2147483648 ≤ r.1.toInt ∧ r.2.2.2.toInt ≤ 2147483647
abbrev fP (r : R4) : Prop := r.1.toInt = r.2.1.toInt ∧ r.2.2.1.toInt = r.2.2.2.toInt
abbrev mP (r q : R4) : Prop := r.1.toInt = q.1.toInt ∧ r.2.1.toInt = q.2.1.toInt ∧ r.2.2.1.toInt = q.2.2.1.toInt ∧ r.2.2.2.toInt = q.2.2.2.toInt
def hV (r : R4) : Int64 := ((r.1 * 31 + r.2.1) * 31 + r.2.2.1) * 31 + r.2.2.2
def eV (r : R4) (a : Int32) : Int64 := if a = 0 then r.1 else if a = 1 then r.2.1 else if a = 2 then r.2.2.1 else r.2.2.2
theorem lmi : (-2147483648 : Int64).toInt = -2147483648 := by decide
theorem lmx : (2147483647 : Int64).toInt = 2147483647 := by decide
set_option maxHeartbeats 4000000 in
theorem fX0_isInOrder {a0 a1 a2 a3 : Int64}  (hT : oP a0 a1 a2 a3 → Q (.inl (some (.int 1))) w) (hF : ¬ (oP a0 a1 a2 a3) → Q (.inl (some (.int 0))) w) : WP (MX0_isInOrder g) Q (0, [some (.long a0), none, some (.long a1), none, some (.long a2), none, some (.long a3), none], [], w, 0, 0) := by
  simp only [eX0_isInOrder_0, eX0_isInOrder_6, eX0_isInOrder_14, eX0_isInOrder_21, eX0_isInOrder_28, eX0_isInOrder_32, eX0_isInOrder_33, lgp, nb_0, nb_1, true_and]
  split
  with_reducible refine And.intro ?_ ?_
  omega
  with_reducible refine And.intro ?_ ?_
  omega
  with_reducible exact hF (by omega)
  split
  with_reducible refine And.intro ?_ ?_
  omega
  with_reducible refine And.intro ?_ ?_
  omega
  with_reducible exact hF (by omega)
  split
  with_reducible refine And.intro ?_ ?_
  omega
  with_reducible refine And.intro ?_ ?_
  omega
  with_reducible exact hF (by omega)
  split
  with_reducible refine And.intro ?_ ?_
  omega
  with_reducible refine And.intro ?_ ?_
  omega
  with_reducible exact hF (by omega)
  with_reducible refine And.intro ?_ ?_
  omega
  with_reducible refine And.intro ?_ ?_
  omega
  with_reducible exact hT (by omega)
set_option maxHeartbeats 4000000 in
theorem fX0_holds {p : Nat} {r : R4} {a0 : Int64} (hp : rAt w p r) (hT : hP r a0 → Q (.inl (some (.int 1))) w) (hF : ¬ (hP r a0) → Q (.inl (some (.int 0))) w) : WP (MX0_holds g) Q (0, [some (.ref p), some (.long a0), none], [], w, 0, 0) := by
  simp only [eX0_holds_0, eX0_holds_4]
  with_reducible refine go_F (by assumption) ?_
  simp only [eX0_holds_5, eX0_holds_9, eX0_holds_22, eX0_holds_23, lgp, g0, ex1, nb_0, true_and]
  split
  with_reducible refine And.intro ?_ ?_
  omega
  with_reducible refine And.intro ?_ ?_
  omega
  with_reducible exact hF (by omega)
  with_reducible refine go_F (by assumption) ?_
  simp only [eX0_holds_14, eX0_holds_18, eX0_holds_22, eX0_holds_23, lgp, g0, gS, ex1, nb_0, nb_1, true_and]
  split
  with_reducible refine And.intro ?_ ?_
  omega
  with_reducible refine And.intro ?_ ?_
  omega
  with_reducible exact hF (by omega)
  with_reducible refine And.intro ?_ ?_
  omega
  with_reducible refine And.intro ?_ ?_
  omega
  with_reducible exact hT (by omega)
set_option maxHeartbeats 4000000 in
theorem fX0_fitsSmall {p : Nat} {r : R4} (hp : rAt w p r) (hT : sP r → Q (.inl (some (.int 1))) w) (hF : ¬ (sP r) → Q (.inl (some (.int 0))) w) : WP (MX0_fitsSmall g) Q (0, [some (.ref p)], [], w, 0, 0) := by
  simp only [eX0_fitsSmall_0, eX0_fitsSmall_4]
  with_reducible refine go_F (by assumption) ?_
  simp only [eX0_fitsSmall_7, eX0_fitsSmall_11, eX0_fitsSmall_15, eX0_fitsSmall_26, eX0_fitsSmall_27, lgn, lmi, g0, ex1, nb_0, true_and]
  split
  with_reducible refine And.intro ?_ ?_
  omega
  with_reducible refine And.intro ?_ ?_
  omega
  with_reducible exact hF (by omega)
  with_reducible refine go_F (by assumption) ?_
  simp only [eX0_fitsSmall_18, eX0_fitsSmall_22, eX0_fitsSmall_26, eX0_fitsSmall_27, lgp, lmx, g0, gS, ex1, nb_0, nb_1, true_and]
  split
  with_reducible refine And.intro ?_ ?_
  omega
  with_reducible refine And.intro ?_ ?_
  omega
  with_reducible exact hF (by omega)
  with_reducible refine And.intro ?_ ?_
  omega
  with_reducible refine And.intro ?_ ?_
  omega
  with_reducible exact hT (by omega)
set_option maxHeartbeats 4000000 in
theorem fX0_holdsAsSmall {p : Nat} {r : R4} {a0 : Int64} (hp : rAt w p r) (hT : (sP r ∧ hP r a0) → Q (.inl (some (.int 1))) w) (hF : ¬ (sP r ∧ hP r a0) → Q (.inl (some (.int 0))) w) : WP (MX0_holdsAsSmall g) Q (0, [some (.ref p), some (.long a0), none], [], w, 0, 0) := by
  simp only [eX0_holdsAsSmall_0, wt_nil, Nat.add_zero]
  with_reducible refine And.intro ?_ ?_
  with_reducible exact go_F (by assumption) trivial
  with_reducible refine And.intro ?_ ?_
  omega
  with_reducible refine And.intro ?_ ?_
  omega
  with_reducible refine And.intro ?_ ?_
  omega
  with_reducible refine fX0_fitsSmall (by assumption) (fun _ => ?_) (fun _ => ?_)
  simp only [eX0_holdsAsSmall_4, eX0_holdsAsSmall_7, eX0_holdsAsSmall_19, eX0_holdsAsSmall_20, i10, if_false, kx_l, wt_nil, tl_s, nb_0, true_and, Nat.add_zero]
  with_reducible refine And.intro ?_ ?_
  with_reducible exact go_F (by assumption) trivial
  with_reducible refine And.intro ?_ ?_
  omega
  with_reducible refine And.intro ?_ ?_
  omega
  with_reducible refine And.intro ?_ ?_
  omega
  with_reducible refine fX0_holds (by assumption) (fun _ => ?_) (fun _ => ?_)
  simp only [eX0_holdsAsSmall_12, eX0_holdsAsSmall_15, eX0_holdsAsSmall_19, eX0_holdsAsSmall_20, i10, if_false, kx_l, tl_s, nb_0, nb_1, true_and]
  with_reducible refine And.intro ?_ ?_
  omega
  with_reducible refine And.intro ?_ ?_
  omega
  with_reducible exact hT (by omega)
  simp only [eX0_holdsAsSmall_12, eX0_holdsAsSmall_15, eX0_holdsAsSmall_19, eX0_holdsAsSmall_20, if_true, kx_l, tl_s, nb_0, nb_1, true_and]
  with_reducible refine And.intro ?_ ?_
  omega
  with_reducible refine And.intro ?_ ?_
  omega
  with_reducible exact hF (by omega)
  simp only [eX0_holdsAsSmall_4, eX0_holdsAsSmall_7, eX0_holdsAsSmall_19, eX0_holdsAsSmall_20, if_true, kx_l, wt_nil, tl_s, nb_0, true_and, Nat.add_zero]
  with_reducible refine And.intro ?_ ?_
  omega
  with_reducible refine And.intro ?_ ?_
  omega
  with_reducible exact hF (by omega)
set_option maxHeartbeats 4000000 in
theorem fX0_holdsAs {p : Nat} {r : R4} {a0 : Int64} {a1 : Int32} (hp : rAt w p r) (hT : ((a1 = 0 ∨ sP r) ∧ hP r a0) → Q (.inl (some (.int 1))) w) (hF : ¬ ((a1 = 0 ∨ sP r) ∧ hP r a0) → Q (.inl (some (.int 0))) w) : WP (MX0_holdsAs g) Q (0, [some (.ref p), some (.long a0), none, some (.int a1)], [], w, 0, 0) := by
  simp only [eX0_holdsAs_0, eX0_holdsAs_4, eX0_holdsAs_9, eX0_holdsAs_12, wt_nil, Nat.add_zero]
  split
  with_reducible refine And.intro ?_ ?_
  with_reducible exact go_F (by assumption) trivial
  with_reducible refine And.intro ?_ ?_
  omega
  with_reducible refine And.intro ?_ ?_
  omega
  with_reducible refine And.intro ?_ ?_
  omega
  with_reducible refine fX0_holds (by assumption) (fun _ => ?_) (fun _ => ?_)
  simp only [eX0_holdsAs_17, kx_l, tl_s, nb_1, true_and]
  with_reducible refine And.intro ?_ ?_
  omega
  with_reducible refine And.intro ?_ ?_
  omega
  with_reducible exact hT ⟨Or.inl (by assumption), by assumption⟩
  simp only [eX0_holdsAs_17, kx_l, tl_s, nb_0, true_and]
  with_reducible refine And.intro ?_ ?_
  omega
  with_reducible refine And.intro ?_ ?_
  omega
  ((with_reducible refine isQ (Q := Q) ?_); exact hF (fun h => (by assumption : ¬ hP r a0) h.2))
  with_reducible refine And.intro ?_ ?_
  with_reducible exact go_F (by assumption) trivial
  with_reducible refine And.intro ?_ ?_
  omega
  with_reducible refine And.intro ?_ ?_
  omega
  with_reducible refine And.intro ?_ ?_
  omega
  with_reducible refine fX0_holdsAsSmall (by assumption) (fun _ => ?_) (fun _ => ?_)
  simp only [eX0_holdsAs_17, kx_l, tl_s, nb_1, true_and]
  with_reducible refine And.intro ?_ ?_
  omega
  with_reducible refine And.intro ?_ ?_
  omega
  with_reducible exact hT ⟨Or.inr (And.left (by assumption : sP r ∧ hP r a0)), And.right (by assumption : sP r ∧ hP r a0)⟩
  simp only [eX0_holdsAs_17, kx_l, tl_s, nb_0, true_and]
  with_reducible refine And.intro ?_ ?_
  omega
  with_reducible refine And.intro ?_ ?_
  omega
  ((with_reducible refine isQ (Q := Q) ?_); exact hF (fun h => (by assumption : ¬ (sP r ∧ hP r a0)) ⟨h.1.resolve_left (by assumption), h.2⟩))
set_option maxHeartbeats 4000000 in
theorem fX0_isSettled {p : Nat} {r : R4} (hp : rAt w p r) (hT : fP r → Q (.inl (some (.int 1))) w) (hF : ¬ (fP r) → Q (.inl (some (.int 0))) w) : WP (MX0_isSettled g) Q (0, [some (.ref p)], [], w, 0, 0) := by
  simp only [eX0_isSettled_0, eX0_isSettled_4]
  with_reducible refine go_F (by assumption) ?_
  simp only [g0, ex1]
  with_reducible refine go_F (by assumption) ?_
  simp only [eX0_isSettled_8, eX0_isSettled_12, eX0_isSettled_16, eX0_isSettled_28, eX0_isSettled_29, lgz, g0, gS, ex1, nb_0, true_and]
  split
  with_reducible refine go_F (by assumption) ?_
  simp only [g0, gS, ex1]
  with_reducible refine go_F (by assumption) ?_
  simp only [eX0_isSettled_20, eX0_isSettled_24, eX0_isSettled_28, eX0_isSettled_29, lgz, g0, gS, ex1, nb_0, nb_1, true_and]
  split
  with_reducible refine And.intro ?_ ?_
  omega
  with_reducible refine And.intro ?_ ?_
  omega
  with_reducible exact hT (by omega)
  with_reducible refine And.intro ?_ ?_
  omega
  with_reducible refine And.intro ?_ ?_
  omega
  with_reducible exact hF (by omega)
  with_reducible refine And.intro ?_ ?_
  omega
  with_reducible refine And.intro ?_ ?_
  omega
  with_reducible exact hF (by omega)
set_option maxHeartbeats 4000000 in
theorem fX0_matchesR {p q : Nat} {r s : R4} (hp : rAt w p r) (hq : rAt w q s) (hT : mP r s → Q (.inl (some (.int 1))) w) (hF : ¬ (mP r s) → Q (.inl (some (.int 0))) w) : WP (MX0_matches g) Q (0, [some (.ref p), some (.ref q)], [], w, 0, 0) := by
  simp only [eX0_matches_0, eX0_matches_1R, eX0_matches_4, eX0_matches_8]
  with_reducible refine go_F (by assumption) ?_
  simp only [g0, ex1]
  with_reducible refine go_F (by assumption) ?_
  simp only [eX0_matches_12, eX0_matches_16, eX0_matches_20, eX0_matches_56, eX0_matches_57, lgz, g0, ex1, nb_0, true_and]
  split
  with_reducible refine go_F (by assumption) ?_
  simp only [g0, gS, ex1]
  with_reducible refine go_F (by assumption) ?_
  simp only [eX0_matches_24, eX0_matches_28, eX0_matches_32, eX0_matches_56, eX0_matches_57, lgz, g0, gS, ex1, nb_0, true_and]
  split
  with_reducible refine go_F (by assumption) ?_
  simp only [g0, gS, ex1]
  with_reducible refine go_F (by assumption) ?_
  simp only [eX0_matches_36, eX0_matches_40, eX0_matches_44, eX0_matches_56, eX0_matches_57, lgz, g0, gS, ex1, nb_0, true_and]
  split
  with_reducible refine go_F (by assumption) ?_
  simp only [g0, gS, ex1]
  with_reducible refine go_F (by assumption) ?_
  simp only [eX0_matches_48, eX0_matches_52, eX0_matches_56, eX0_matches_57, lgz, g0, gS, ex1, nb_0, nb_1, true_and]
  split
  with_reducible refine And.intro ?_ ?_
  omega
  with_reducible refine And.intro ?_ ?_
  omega
  with_reducible exact hT (by omega)
  with_reducible refine And.intro ?_ ?_
  omega
  with_reducible refine And.intro ?_ ?_
  omega
  with_reducible exact hF (by omega)
  with_reducible refine And.intro ?_ ?_
  omega
  with_reducible refine And.intro ?_ ?_
  omega
  with_reducible exact hF (by omega)
  with_reducible refine And.intro ?_ ?_
  omega
  with_reducible refine And.intro ?_ ?_
  omega
  with_reducible exact hF (by omega)
  with_reducible refine And.intro ?_ ?_
  omega
  with_reducible refine And.intro ?_ ?_
  omega
  with_reducible exact hF (by omega)
set_option maxHeartbeats 4000000 in
theorem fX0_hash {p : Nat} {r : R4} (hp : rAt w p r) (hQ : Q (.inl (some (.long (hV r)))) w) : WP (MX0_hash g) Q (0, [some (.ref p), none, none], [], w, 0, 0) := by
  repeat' first
    | with_reducible assumption
    | with_reducible refine And.intro ?_ ?_
    | with_reducible exact vpi6 (by assumption) (by assumption)
    | with_reducible exact vpi8 (by assumption) (by assumption)
    | with_reducible exact trivial
    | with_reducible exact go_F (by assumption) trivial
    | with_reducible refine go_F (by assumption) ?_
    | ((with_reducible refine isQ (Q := Q) ?_); exact hQ)
    | simp only [eX0_hash_0, eX0_hash_0N, eX0_hash_1, eX0_hash_4, eX0_hash_10, eX0_hash_10N, eX0_hash_11, eX0_hash_14, eX0_hash_21, eX0_hash_21N, eX0_hash_22, eX0_hash_25, eX0_hash_32, eX0_hash_32N, eX0_hash_33, eX0_hash_36, lgp, lgn, lgz, i10, i00, if_true, if_false, eq_self, not_true, not_false_eq_true, ite_le, n45, n54, true_or, or_true, false_or, or_false, false_and, and_false, kx_l, kx_r, go_s, gl_s, gi_s, gb_s2, gb_s3, gq_s, wt_nil, wt_int, wt_long, wt_ref, wt_null, nl_int, nl_long, nl_ref, nl_null, nl_none, rf_n, rf_s, rf_st, tl_s, tl_n, g0, gS, ex1, nb_b, nb_0, nb_1, nf_i, nf_l, nf_ra, nf_ro, nf_na, nf_no, nf_b0, nf_z0, t45_4, t45_5, true_and, and_true, List.set_cons_zero, List.set_cons_succ, List.length_cons, List.length_nil, rd_s, upw_s, ne_eq, not_false_eq_true, Nat.zero_add, Nat.add_zero]
    | split
    | with_reducible intro _
    | omega
set_option maxHeartbeats 4000000 in
theorem fX0_ofFour {a0 a1 a2 a3 : Int64} (hN : ¬ oP a0 a1 a2 a3 → Q (.inl (some .null)) w) (hQ : oP a0 a1 a2 a3 → ∀ q, rd g w q = none → Q (.inl (some (.ref q))) (upw w q (.inr (4, [.long a0, .long a1, .long a2, .long a3])))) : WP (MX0_ofFour g) Q (0, [some (.long a0), none, some (.long a1), none, some (.long a2), none, some (.long a3), none], [], w, 0, 0) := by
  simp only [eX0_ofFour_0, wt_nil, Nat.add_zero]
  with_reducible refine And.intro ?_ ?_
  omega
  with_reducible refine And.intro ?_ ?_
  omega
  with_reducible refine And.intro ?_ ?_
  omega
  with_reducible refine fX0_isInOrder (fun _ => ?_) (fun _ => ?_)
  simp only [eX0_ofFour_9, eX0_ofFour_12, eX0_ofFour_15R, eX0_ofFour_25, eX0_ofFour_28, eX0_ofFour_29, eX0_ofFour_29N, eX0_init_0, eX0_init_4, eX0_init_9, eX0_init_14, eX0_init_20, eX0_init_26, i10, if_false, upw2q, kx_l, go_s, wt_nil, wt_ref, tl_s, tl_n, nf_l, true_and, List.set_cons_zero, List.set_cons_succ, List.length_cons, List.length_nil, upw_s, Nat.zero_add, Nat.add_zero]
  with_reducible refine And.intro ?_ ?_
  omega
  with_reducible refine And.intro ?_ ?_
  omega
  with_reducible intro _
  with_reducible intro _
  with_reducible refine And.intro ?_ ?_
  omega
  with_reducible refine And.intro ?_ ?_
  omega
  with_reducible refine And.intro ?_ ?_
  omega
  with_reducible refine And.intro ?_ ?_
  omega
  with_reducible refine And.intro ?_ ?_
  omega
  with_reducible refine And.intro ?_ ?_
  omega
  with_reducible refine And.intro ?_ ?_
  omega
  with_reducible refine And.intro ?_ ?_
  omega
  with_reducible refine And.intro ?_ ?_
  omega
  with_reducible refine And.intro ?_ ?_
  omega
  with_reducible refine And.intro ?_ ?_
  omega
  with_reducible refine And.intro ?_ ?_
  omega
  with_reducible exact hQ (by assumption) _ (by assumption)
  simp only [eX0_ofFour_9, eX0_ofFour_12, eX0_ofFour_15R, eX0_ofFour_25, eX0_ofFour_28, eX0_ofFour_29, eX0_ofFour_29N, eX0_init_0, eX0_init_4, eX0_init_9, eX0_init_14, eX0_init_20, eX0_init_26, if_true, upw2q, kx_l, go_s, wt_nil, wt_ref, tl_s, tl_n, nf_l, true_and, List.set_cons_zero, List.set_cons_succ, List.length_cons, List.length_nil, upw_s, Nat.zero_add, Nat.add_zero]
  with_reducible refine And.intro ?_ ?_
  omega
  with_reducible refine And.intro ?_ ?_
  omega
  with_reducible exact hN (by assumption)
set_option maxHeartbeats 4000000 in
theorem fX0_ofThree {a0 a1 a2 : Int64} (hN : ¬ oP a0 a0 a1 a2 → Q (.inl (some .null)) w) (hQ : oP a0 a0 a1 a2 → ∀ q, rd g w q = none → Q (.inl (some (.ref q))) (upw w q (.inr (4, [.long a0, .long a0, .long a1, .long a2])))) : WP (MX0_ofThree g) Q (0, [some (.long a0), none, some (.long a1), none, some (.long a2), none], [], w, 0, 0) := by
  simp only [eX0_ofThree_0, wt_nil, Nat.zero_add]
  with_reducible refine And.intro ?_ ?_
  omega
  with_reducible refine And.intro ?_ ?_
  omega
  with_reducible refine And.intro ?_ ?_
  omega
  with_reducible refine fX0_ofFour (fun _ => ?_) (fun _ _ _ => ?_)
  simp only [eX0_ofThree_8N, kx_l, tl_s]
  with_reducible refine And.intro ?_ ?_
  omega
  with_reducible refine And.intro ?_ ?_
  omega
  with_reducible exact hN (by assumption)
  simp only [eX0_ofThree_8, kx_l, tl_s]
  with_reducible refine And.intro ?_ ?_
  omega
  with_reducible refine And.intro ?_ ?_
  omega
  with_reducible exact hQ (by assumption) _ (by assumption)
set_option maxHeartbeats 4000000 in
theorem fX0_ofTwo {a0 a1 : Int64} (hN : ¬ oP a0 a0 a1 a1 → Q (.inl (some .null)) w) (hQ : oP a0 a0 a1 a1 → ∀ q, rd g w q = none → Q (.inl (some (.ref q))) (upw w q (.inr (4, [.long a0, .long a0, .long a1, .long a1])))) : WP (MX0_ofTwo g) Q (0, [some (.long a0), none, some (.long a1), none], [], w, 0, 0) := by
  simp only [eX0_ofTwo_0, wt_nil, Nat.zero_add]
  with_reducible refine And.intro ?_ ?_
  omega
  with_reducible refine And.intro ?_ ?_
  omega
  with_reducible refine And.intro ?_ ?_
  omega
  with_reducible refine fX0_ofFour (fun _ => ?_) (fun _ _ _ => ?_)
  simp only [eX0_ofTwo_7N, kx_l, tl_s]
  with_reducible refine And.intro ?_ ?_
  omega
  with_reducible refine And.intro ?_ ?_
  omega
  with_reducible exact hN (by assumption)
  simp only [eX0_ofTwo_7, kx_l, tl_s]
  with_reducible refine And.intro ?_ ?_
  omega
  with_reducible refine And.intro ?_ ?_
  omega
  with_reducible exact hQ (by assumption) _ (by assumption)
theorem eV_d {r : R4} {a : Int32} (h : a.toInt < 0 ∨ 2 < a.toInt) : eV r a = r.2.2.2 := by
  unfold eV
  rw [if_neg, if_neg, if_neg]
  all_goals
    rintro rfl
    revert h
    decide
set_option maxHeartbeats 4000000 in
theorem fX0_endAt {p : Nat} {r : R4} {a0 : Int32} (hp : rAt w p r) (hQ : Q (.inl (some (.long (eV r a0)))) w) : WP (MX0_endAt g) Q (0, [some (.ref p), some (.int a0)], [], w, 0, 0) := by
  rcases sw02 a0 with rfl | rfl | rfl | hsw
  · skip
    simp only [eX0_endAt_0, eX0_endAt_1_0, eX0_endAt_28]
    with_reducible refine go_F (by assumption) ?_
    simp only [eX0_endAt_32, g0, ex1]
    with_reducible refine And.intro ?_ ?_
    omega
    with_reducible refine And.intro ?_ ?_
    omega
    ((with_reducible refine isQ (Q := Q) ?_); exact hQ)
  · skip
    simp only [eX0_endAt_0, eX0_endAt_1_1, eX0_endAt_33]
    with_reducible refine go_F (by assumption) ?_
    simp only [eX0_endAt_37, g0, gS, ex1]
    with_reducible refine And.intro ?_ ?_
    omega
    with_reducible refine And.intro ?_ ?_
    omega
    ((with_reducible refine isQ (Q := Q) ?_); exact hQ)
  · skip
    simp only [eX0_endAt_0, eX0_endAt_1_2, eX0_endAt_38]
    with_reducible refine go_F (by assumption) ?_
    simp only [eX0_endAt_42, g0, gS, ex1]
    with_reducible refine And.intro ?_ ?_
    omega
    with_reducible refine And.intro ?_ ?_
    omega
    ((with_reducible refine isQ (Q := Q) ?_); exact hQ)
  · rw [eV_d hsw] at hQ
    simp only [eX0_endAt_0, eX0_endAt_43, eX0_endAt_1_d hsw]
    with_reducible refine go_F (by assumption) ?_
    simp only [eX0_endAt_47, g0, gS, ex1]
    with_reducible refine And.intro ?_ ?_
    omega
    with_reducible refine And.intro ?_ ?_
    omega
    with_reducible assumption
end
end
/-! 71.fn1.lean.txt -/
section
section
variable {g : RO} {Q : Ot → Hw → Prop} {w0 w : Hw} {x nA cA lA : Nat} {kn : Int32}
abbrev AS : Type := (Nat → Int64) × (Nat → Option R4) × Int32 × (Nat → R4) × Int32 × Int32
def cM (w : Hw) : Option Nat → Option R4 → Prop
  | none, none => True
  | some b, some r => rAt w b r
  | _, _ => False
theorem cM.s {b : Nat} {o : Option R4} (h : cM w (some b) o) : ∃ r, o = some r ∧ rAt w b r := by
  cases o with
  | none => exact (h : False).elim
  | some r => exact ⟨r, rfl, h⟩
theorem cM.n {o : Option R4} (h : cM w none o) : o = none := by
  cases o with
  | none => rfl
  | some r => exact (h : False).elim
theorem cM.mp {w' : Hw} {q : Option Nat} {o : Option R4} (h : cM w q o) (k : ∀ b r, rAt w b r → rAt w' b r) : cM w' q o := by
  cases q <;> cases o <;> first | exact h | exact k _ _ h
/-- the class's cells hold the state s -/
def RF (w : Hw) (x nA cA lA : Nat) (kn : Int32) (s : AS) : Prop := ∃ gc gl : Nat → Option Nat,
  (w x = some (.inr (5, [.ref nA, .ref cA, .ref lA, .int s.2.2.1, .int s.2.2.2.2.1, .int kn, .int s.2.2.2.2.2])) ∧ w nA = some (.inl (0, 8, .inr (.inl s.1))) ∧ w cA = some (.inl (4, 6, qc gc)) ∧ w lA = some (.inl (4, 12, qc gl)) ∧
  (∀ (i b : Nat), gc i = some b → isR w b) ∧ (∀ (i b : Nat), gl i = some b → isR w b) ∧ ¬ s.2.2.1 < 0 ∧ ¬ 12 < s.2.2.1) ∧
  (∀ i, i < 6 → cM w (gc i) (s.2.1 i)) ∧ ∀ i : Nat, (i : Int) < s.2.2.1.toInt → ∃ b, gl i = some b ∧ rAt w b (s.2.2.2.1 i)
/-- what is always so of a state: its ranges are in order -/
def sOk (s : AS) : Prop := (∀ i r, i < 6 → s.2.1 i = some r → rOk r) ∧ (∀ i : Nat, (i : Int) < s.2.2.1.toInt → rOk (s.2.2.2.1 i)) ∧ ¬ s.2.2.1 < 0 ∧ ¬ 12 < s.2.2.1
theorem RF.rc {s : AS} (h : RF w x nA cA lA kn s) : RC w x nA cA lA kn := by
  obtain ⟨gc, gl, ⟨h1, h2, h3, h4, h5, h6, h7, h8⟩, -⟩ := h
  exact ⟨_, _, _, _, gc, gl, h1, h2, h3, h4, h5, h6, h7, h8⟩
def CS (g : RO) (w0 : Hw) (x nA cA lA : Nat) (kn : Int32) (s : AS) (w : Hw) : Prop := RF w x nA cA lA kn s ∧ FC g nA w0 w
theorem CS.cc {s : AS} (h : CS g w0 x nA cA lA kn s w) : CC g w0 x nA cA lA kn w := ⟨h.1.rc, h.2⟩
theorem rAt_up2 {a b : Nat} {r : R4} {o1 o2 : Ob} (h : rAt w b r) (ha : w a = some o1) (ho : ∀ fs, o1 ≠ .inr (4, fs)) : rAt (upw w a o2) b r := by
  unfold rAt
  rw [upw_n]
  · exact h
  · rintro rfl
    rw [h] at ha
    cases ha
    exact ho _ rfl
/-- the class's cells, as they are read and written -/
theorem RF.opn (g : RO) {s : AS} (h : RF w x nA cA lA kn s) : ∃ gc gl : Nat → Option Nat, RO5 g w x nA cA lA s.2.2.1 s.2.2.2.2.1 kn s.2.2.2.2.2 s.1 gc gl ∧ (∀ i, i < 6 → cM w (gc i) (s.2.1 i)) ∧ ∀ i : Nat, (i : Int) < s.2.2.1.toInt → ∃ b, gl i = some b ∧ rAt w b (s.2.2.2.1 i) := by
  obtain ⟨gc, gl, ⟨h1, h2, h3, h4, h5, h6, h7, h8⟩, k1, k2⟩ := h
  have e : ∀ {a b : Nat} {o1 o2 : Ob}, w a = some o1 → w b = some o2 → o1 ≠ o2 → a ≠ b := fun {a b o1 o2} z1 z2 z3 z4 => by
    subst z4
    exact z3 (Option.some.inj (z1.symm.trans z2))
  exact ⟨gc, gl, ⟨h1, h2, h3, h4, h5, h6, h7, h8, rd_e h1, rd_e h2, rd_e h3, rd_e h4, ⟨e h1 h2 (by simp), e h1 h3 (by simp), e h1 h4 (by simp), e h2 h1 (by simp), e h2 h3 (by simp), e h2 h4 (by simp)⟩, ⟨e h3 h1 (by simp), e h3 h2 (by simp), e h3 h4 (by simp), e h4 h1 (by simp), e h4 h2 (by simp), e h4 h3 (by simp)⟩⟩, k1, k2⟩
theorem CS.ext {s : AS} {w' : Hw} (h : CS g w0 x nA cA lA kn s w) (k : ext g w w') : CS g w0 x nA cA lA kn s w' := by
  obtain ⟨⟨gc, gl, ⟨h1, h2, h3, h4, h5, h6, h7⟩, k1, k2⟩, hf⟩ := h
  exact ⟨⟨gc, gl, ⟨k.1 _ _ h1, k.1 _ _ h2, k.1 _ _ h3, k.1 _ _ h4, fun i b z => (h5 i b z).ext k, fun i b z => (h6 i b z).ext k, h7⟩, fun i hi => (k1 i hi).mp fun b r hb => hb.ext k, fun i hi => (k2 i hi).imp fun b z => ⟨z.1, z.2.ext k⟩⟩, hf.ext k⟩
abbrev sN (s : AS) (f : Nat → Int64) : AS := (f, s.2)
abbrev sC (s : AS) (f : Nat → Option R4) : AS := (s.1, f, s.2.2)
abbrev sP_ (s : AS) (n : Int32) (f : Nat → R4) : AS := (s.1, s.2.1, n, f, s.2.2.2.2)
abbrev sR_ (s : AS) (r : Int32) : AS := (s.1, s.2.1, s.2.2.1, s.2.2.2.1, r, s.2.2.2.2.2)
abbrev sM_ (s : AS) (m : Int32) : AS := (s.1, s.2.1, s.2.2.1, s.2.2.2.1, s.2.2.2.2.1, m)
theorem CS.num {s : AS} (h : CS g w0 x nA cA lA kn s w) (f' : Nat → Int64) : CS g w0 x nA cA lA kn (sN s f') (upw w nA (.inl (0, 8, .inr (.inl f')))) := by
  obtain ⟨gc, gl, ⟨h1, h2, h3, h4, h5, h6, h7, h8, -, -, -, -, ⟨d1, d2, d3, d4, d5, d6⟩, ⟨d7, d8, d9, d10, d11, d12⟩⟩, k1, k2⟩ := h.1.opn (fun _ => .null, fun _ => none)
  exact ⟨⟨gc, gl, ⟨by rw [upw_n d1]; exact h1, upw_s _ _ _, by rw [upw_n d8]; exact h3, by rw [upw_n d11]; exact h4, fun i b z => isR_up2 (h5 i b z) h2 (by simp), fun i b z => isR_up2 (h6 i b z) h2 (by simp), h7, h8⟩, fun i hi => (k1 i hi).mp fun b r hb => rAt_up2 hb h2 (by simp), fun i hi => (k2 i hi).imp fun b z => ⟨z.1, rAt_up2 z.2 h2 (by simp)⟩⟩, h.2.up h2 (Or.inl rfl)⟩
/-- a card gets what stands at q (or nothing) -/
theorem CS.card {s : AS} (h : CS g w0 x nA cA lA kn s w) (gc : Nat → Option Nat) (hc : w cA = some (.inl (4, 6, qc gc))) (j : Nat) (q : Option Nat) (o : Option R4) (hq : cM w q o) : CS g w0 x nA cA lA kn (sC s (va_up s.2.1 j o)) (upw w cA (.inl (4, 6, qc (va_up gc j q)))) := by
  obtain ⟨gc', gl, ⟨h1, h2, h3, h4, h5, h6, h7, h8, -, -, -, -, ⟨d1, d2, d3, d4, d5, d6⟩, ⟨d7, d8, d9, d10, d11, d12⟩⟩, k1, k2⟩ := h.1.opn (fun _ => .null, fun _ => none)
  rw [hc] at h3
  cases h3
  refine ⟨⟨_, gl, ⟨by rw [upw_n d2]; exact h1, by rw [upw_n d5]; exact h2, upw_s _ _ _, by rw [upw_n d12]; exact h4, fun i b z => isR_up2 ?_ hc (by simp), fun i b z => isR_up2 (h6 i b z) hc (by simp), h7, h8⟩, fun i hi => cM.mp ?_ (fun b r hb => rAt_up2 hb hc (by simp)), fun i hi => (k2 i hi).imp fun b z => ⟨z.1, rAt_up2 z.2 hc (by simp)⟩⟩, h.2.up hc (Or.inr rfl)⟩
  · unfold va_up at z
    split at z
    · subst z
      obtain ⟨r, -, hr⟩ := hq.s
      exact hr.isR
    · exact h5 i b z
  · show cM w (va_up gc j q i) (va_up s.2.1 j o i)
    unfold va_up
    split
    · exact hq
    · exact k1 i hi
theorem CS.obj {s : AS} (h : CS g w0 x nA cA lA kn s w) (rf' kn' md' : Int32) : CS g w0 x nA cA lA kn' (sM_ (sR_ s rf') md') (upw w x (.inr (5, [.ref nA, .ref cA, .ref lA, .int s.2.2.1, .int rf', .int kn', .int md']))) := by
  obtain ⟨gc, gl, ⟨h1, h2, h3, h4, h5, h6, h7, h8, -, -, -, -, ⟨d1, d2, d3, d4, d5, d6⟩, ⟨d7, d8, d9, d10, d11, d12⟩⟩, k1, k2⟩ := h.1.opn (fun _ => .null, fun _ => none)
  exact ⟨⟨gc, gl, ⟨upw_s _ _ _, by rw [upw_n d4]; exact h2, by rw [upw_n d7]; exact h3, by rw [upw_n d10]; exact h4, fun i b z => isR_up2 (h5 i b z) h1 (by simp), fun i b z => isR_up2 (h6 i b z) h1 (by simp), h7, h8⟩, fun i hi => (k1 i hi).mp fun b r hb => rAt_up2 hb h1 (by simp), fun i hi => (k2 i hi).imp fun b z => ⟨z.1, rAt_up2 z.2 h1 (by simp)⟩⟩, h.2.up h1 (Or.inr rfl)⟩
end
end
/-! 71.fn2.lean.txt -/
section
section
variable {g : RO} {Q : Ot → Hw → Prop} {w0 w : Hw} {x nA cA lA : Nat} {kn : Int32}
abbrev okN (a : Int32) : Prop := ¬ a < 0 ∧ a < 8
abbrev okC (a : Int32) : Prop := ¬ a < 0 ∧ a < 6
abbrev okW (a m : Int32) : Prop := ¬ a < 0 ∧ ¬ m < a
def hiV (a : Int64) : Int32 := (a >>> ((32 : Int32).toInt64 &&& 63)).toInt32
def loV (a : Int64) : Int32 := a.toInt32
def hfV (a : Int64) (h : Int32) : Int32 := if h = 0 then loV a else hiV a
def stV (h l : Int32) : Int64 := (h.toInt64 <<< ((32 : Int32).toInt64 &&& 63)) ||| (l.toInt64 &&& 4294967295)
def frV (a : Int32) : Int64 := if a = 0 then -9223372036854775808 else if a = 1 then 9223372036854775807 else if a = 2 then -2147483648 else 2147483647
theorem frV_d {a : Int32} (h : a.toInt < 0 ∨ 2 < a.toInt) : frV a = 2147483647 := by
  unfold frV
  rw [if_neg, if_neg, if_neg]
  all_goals
    rintro rfl
    revert h
    decide
theorem hfV_n {a : Int64} {h : Int32} (k : ¬ h = 0) : hfV a h = hiV a := if_neg k
set_option maxHeartbeats 4000000 in
theorem fX1_needNumber {a0 : Int32} (hX : ¬ okN a0 → (Q (.inr "java/lang/IndexOutOfBoundsException") w)) (hQ : okN a0 → Q (.inl none) w) : WP (MX1_needNumber g) Q (0, [some (.int a0)], [], w, 0, 0) := by
  simp only [eX1_needNumber_0, eX1_needNumber_4, eX1_needNumber_10, eX1_needNumber_20, wt_nil, Nat.zero_add]
  split
  with_reducible refine And.intro ?_ ?_
  omega
  with_reducible refine And.intro ?_ ?_
  omega
  with_reducible refine And.intro ?_ ?_
  omega
  with_reducible refine And.intro ?_ ?_
  omega
  with_reducible exact hX (fun h => absurd (by assumption) h.1)
  split
  with_reducible refine And.intro ?_ ?_
  omega
  with_reducible refine And.intro ?_ ?_
  omega
  with_reducible exact hQ ⟨by assumption, by assumption⟩
  with_reducible refine And.intro ?_ ?_
  omega
  with_reducible refine And.intro ?_ ?_
  omega
  with_reducible refine And.intro ?_ ?_
  omega
  with_reducible refine And.intro ?_ ?_
  omega
  with_reducible exact hX (fun h => absurd h.2 (by assumption))
set_option maxHeartbeats 4000000 in
theorem fX1_needCard {a0 : Int32} (hX : ¬ okC a0 → (Q (.inr "java/lang/IndexOutOfBoundsException") w)) (hQ : okC a0 → Q (.inl none) w) : WP (MX1_needCard g) Q (0, [some (.int a0)], [], w, 0, 0) := by
  simp only [eX1_needCard_0, eX1_needCard_4, eX1_needCard_10, eX1_needCard_20, wt_nil, Nat.zero_add]
  split
  with_reducible refine And.intro ?_ ?_
  omega
  with_reducible refine And.intro ?_ ?_
  omega
  with_reducible refine And.intro ?_ ?_
  omega
  with_reducible refine And.intro ?_ ?_
  omega
  with_reducible exact hX (fun h => absurd (by assumption) h.1)
  split
  with_reducible refine And.intro ?_ ?_
  omega
  with_reducible refine And.intro ?_ ?_
  omega
  with_reducible exact hQ ⟨by assumption, by assumption⟩
  with_reducible refine And.intro ?_ ?_
  omega
  with_reducible refine And.intro ?_ ?_
  omega
  with_reducible refine And.intro ?_ ?_
  omega
  with_reducible refine And.intro ?_ ?_
  omega
  with_reducible exact hX (fun h => absurd h.2 (by assumption))
set_option maxHeartbeats 4000000 in
theorem fX1_needChoice {a0 a1 : Int32} (hX : ¬ okW a0 a1 → (Q (.inr "java/lang/IllegalArgumentException") w)) (hQ : okW a0 a1 → Q (.inl none) w) : WP (MX1_needChoice g) Q (0, [some (.int a0), some (.int a1)], [], w, 0, 0) := by
  simp only [eX1_needChoice_0, eX1_needChoice_4, eX1_needChoice_9, eX1_needChoice_19, ite_le, wt_nil, Nat.zero_add]
  split
  with_reducible refine And.intro ?_ ?_
  omega
  with_reducible refine And.intro ?_ ?_
  omega
  with_reducible refine And.intro ?_ ?_
  omega
  with_reducible refine And.intro ?_ ?_
  omega
  with_reducible exact hX (fun h => absurd (by assumption) h.1)
  split
  with_reducible refine And.intro ?_ ?_
  omega
  with_reducible refine And.intro ?_ ?_
  omega
  with_reducible refine And.intro ?_ ?_
  omega
  with_reducible refine And.intro ?_ ?_
  omega
  with_reducible exact hX (fun h => absurd (by assumption) h.2)
  with_reducible refine And.intro ?_ ?_
  omega
  with_reducible refine And.intro ?_ ?_
  omega
  with_reducible exact hQ ⟨by assumption, by assumption⟩
set_option maxHeartbeats 4000000 in
theorem fX1_highOf {a0 : Int64}  (hQ : Q (.inl (some (.int (hiV a0)))) w) : WP (MX1_highOf g) Q (0, [some (.long a0), none], [], w, 0, 0) := by
  simp only [eX1_highOf_0]
  with_reducible refine And.intro ?_ ?_
  omega
  with_reducible refine And.intro ?_ ?_
  omega
  ((with_reducible refine isQ (Q := Q) ?_); exact hQ)
set_option maxHeartbeats 4000000 in
theorem fX1_lowOf {a0 : Int64}  (hQ : Q (.inl (some (.int (loV a0)))) w) : WP (MX1_lowOf g) Q (0, [some (.long a0), none], [], w, 0, 0) := by
  simp only [eX1_lowOf_0]
  with_reducible refine And.intro ?_ ?_
  omega
  with_reducible refine And.intro ?_ ?_
  omega
  ((with_reducible refine isQ (Q := Q) ?_); exact hQ)
set_option maxHeartbeats 4000000 in
theorem fX1_halfOf {a0 : Int64} {a1 : Int32}  (hQ : Q (.inl (some (.int (hfV a0 a1)))) w) : WP (MX1_halfOf g) Q (0, [some (.long a0), none, some (.int a1)], [], w, 0, 0) := by
  simp only [eX1_halfOf_0, eX1_halfOf_4, eX1_halfOf_8, eX1_halfOf_11, wt_nil, Nat.add_zero]
  split
  with_reducible refine And.intro ?_ ?_
  omega
  with_reducible refine And.intro ?_ ?_
  omega
  with_reducible refine And.intro ?_ ?_
  omega
  with_reducible refine fX1_lowOf ?_
  simp only [eX1_halfOf_15, kx_l, tl_s]
  with_reducible refine And.intro ?_ ?_
  omega
  with_reducible refine And.intro ?_ ?_
  omega
  (subst_vars; exact hQ)
  with_reducible refine And.intro ?_ ?_
  omega
  with_reducible refine And.intro ?_ ?_
  omega
  with_reducible refine And.intro ?_ ?_
  omega
  with_reducible refine fX1_highOf ?_
  simp only [eX1_halfOf_15, kx_l, tl_s]
  with_reducible refine And.intro ?_ ?_
  omega
  with_reducible refine And.intro ?_ ?_
  omega
  (rw [hfV_n (by assumption)] at hQ; exact hQ)
set_option maxHeartbeats 4000000 in
theorem fX1_isSmallNumber {a0 : Int64}  (hT : (-2147483648 ≤ a0.toInt ∧ a0.toInt ≤ 2147483647) → Q (.inl (some (.int 1))) w) (hF : ¬ (-2147483648 ≤ a0.toInt ∧ a0.toInt ≤ 2147483647) → Q (.inl (some (.int 0))) w) : WP (MX1_isSmallNumber g) Q (0, [some (.long a0), none], [], w, 0, 0) := by
  simp only [eX1_isSmallNumber_0, eX1_isSmallNumber_8, eX1_isSmallNumber_16, eX1_isSmallNumber_20, eX1_isSmallNumber_21, lgp, lgn, lmi, lmx, nb_0, nb_1, true_and]
  split
  with_reducible refine And.intro ?_ ?_
  omega
  with_reducible refine And.intro ?_ ?_
  omega
  with_reducible exact hF (by omega)
  split
  with_reducible refine And.intro ?_ ?_
  omega
  with_reducible refine And.intro ?_ ?_
  omega
  with_reducible exact hF (by omega)
  with_reducible refine And.intro ?_ ?_
  omega
  with_reducible refine And.intro ?_ ?_
  omega
  with_reducible exact hT (by omega)
set_option maxHeartbeats 4000000 in
theorem fX1_asNumber {a0 : Int32} (h0 : a0 = 0 ∨ a0 = 1) (hQ : Q (.inl (some (.int a0))) w) : WP (MX1_asNumber g) Q (0, [some (.int a0)], [], w, 0, 0) := by
  rcases h0 with rfl | rfl
  · skip
    simp only [eX1_asNumber_0, eX1_asNumber_4, eX1_asNumber_8, eX1_asNumber_9, if_true]
    with_reducible refine And.intro ?_ ?_
    omega
    with_reducible refine And.intro ?_ ?_
    omega
    with_reducible assumption
  · skip
    simp only [eX1_asNumber_0, eX1_asNumber_4, eX1_asNumber_8, eX1_asNumber_9, i10, if_false]
    with_reducible refine And.intro ?_ ?_
    omega
    with_reducible refine And.intro ?_ ?_
    omega
    with_reducible assumption
set_option maxHeartbeats 4000000 in
theorem fX1_farNumber {a0 : Int32} (hQ : Q (.inl (some (.long (frV a0)))) w) : WP (MX1_farNumber g) Q (0, [some (.int a0)], [], w, 0, 0) := by
  rcases sw02 a0 with rfl | rfl | rfl | hsw
  · skip
    simp only [eX1_farNumber_0, eX1_farNumber_1_0, eX1_farNumber_28]
    with_reducible refine And.intro ?_ ?_
    omega
    with_reducible refine And.intro ?_ ?_
    omega
    ((with_reducible refine isQ (Q := Q) ?_); exact hQ)
  · skip
    simp only [eX1_farNumber_0, eX1_farNumber_1_1, eX1_farNumber_32]
    with_reducible refine And.intro ?_ ?_
    omega
    with_reducible refine And.intro ?_ ?_
    omega
    ((with_reducible refine isQ (Q := Q) ?_); exact hQ)
  · skip
    simp only [eX1_farNumber_0, eX1_farNumber_1_2, eX1_farNumber_36]
    with_reducible refine And.intro ?_ ?_
    omega
    with_reducible refine And.intro ?_ ?_
    omega
    ((with_reducible refine isQ (Q := Q) ?_); exact hQ)
  · rw [frV_d hsw] at hQ
    simp only [eX1_farNumber_0, eX1_farNumber_40, eX1_farNumber_1_d hsw]
    with_reducible refine And.intro ?_ ?_
    omega
    with_reducible refine And.intro ?_ ?_
    omega
    with_reducible assumption
set_option maxHeartbeats 4000000 in
theorem fX1_putNumber {s : AS} {a0 : Int32} {a1 : Int64} (hC : CS g w0 x nA cA lA kn s w) (k0 : ¬ a0 < 0) (k1 : a0 < 8) (hQ : ∀ w', CS g w0 x nA cA lA kn (sN s (vp_updL s.1 a0.toNatClampNeg a1)) w' → Q (.inl (some (.int (loV a1)))) w') : WP (MX1_putNumber g) Q (0, [some (.ref x), some (.int a0), some (.long a1), none], [], w, 0, 0) := by
  obtain ⟨gc, gl, ⟨hx, hn, hc, hl, hgc, hgl, hn0, hn1, rx, rn, rc, rl, ⟨d1, d2, d3, d4, d5, d6⟩, ⟨d7, d8, d9, d10, d11, d12⟩⟩, hcd, hpl⟩ := hC.1.opn g
  simp only [eX1_putNumber_0, eX1_putNumber_4, eX1_putNumber_7, rx, hn, go_s, gl_s, wt_nil, g0, ex1, Nat.add_zero]
  with_reducible refine And.intro ?_ ?_
  with_reducible exact vpi8 (by assumption) (by assumption)
  with_reducible refine And.intro ?_ ?_
  omega
  with_reducible refine And.intro ?_ ?_
  omega
  with_reducible refine And.intro ?_ ?_
  omega
  with_reducible refine fX1_lowOf ?_
  simp only [eX1_putNumber_11, kx_l, tl_s]
  with_reducible refine And.intro ?_ ?_
  omega
  with_reducible refine And.intro ?_ ?_
  omega
  with_reducible exact hQ _ (hC.num _)
set_option maxHeartbeats 4000000 in
theorem fX1_set {s : AS} {a0 a1 a2 : Int32} (hC : CS g w0 x nA cA lA kn s w) (hX : ¬ okN a0 → (Q (.inr "java/lang/IndexOutOfBoundsException") w)) (hQ : okN a0 → ∀ w', CS g w0 x nA cA lA kn (sN s (vp_updL s.1 a0.toNatClampNeg (stV a1 a2))) w' → Q (.inl (some (.int (hiV (s.1 a0.toNatClampNeg))))) w') : WP (MX1_set g) Q (0, [some (.ref x), some (.int a0), some (.int a1), some (.int a2), none], [], w, 0, 0) := by
  obtain ⟨gc, gl, ⟨hx, hn, hc, hl, hgc, hgl, hn0, hn1, rx, rn, rc, rl, ⟨d1, d2, d3, d4, d5, d6⟩, ⟨d7, d8, d9, d10, d11, d12⟩⟩, hcd, hpl⟩ := hC.1.opn g
  simp only [eX1_set_0, eX1_set_4, eX1_set_8, wt_nil, Nat.zero_add]
  with_reducible refine And.intro ?_ ?_
  omega
  with_reducible refine And.intro ?_ ?_
  omega
  with_reducible refine And.intro ?_ ?_
  omega
  with_reducible refine fX1_needNumber (fun _ => ?_) (fun hok => ?_)
  simp only [kx_r]
  with_reducible exact hX (by assumption)
  simp only [eX1_set_9, eX1_set_10, rx, rn, kx_l, go_s, gl_s, wt_nil, tl_n, g0, ex1, Nat.add_zero]
  with_reducible refine And.intro ?_ ?_
  with_reducible exact vpi8 hok.1 hok.2
  with_reducible refine And.intro ?_ ?_
  omega
  with_reducible refine And.intro ?_ ?_
  omega
  with_reducible refine And.intro ?_ ?_
  omega
  with_reducible refine fX1_highOf ?_
  simp only [eX1_set_13, eX1_set_19, eX1_set_33, rx, hn, kx_l, go_s, gl_s, nl_int, tl_s, g0, ex1]
  with_reducible refine And.intro ?_ ?_
  with_reducible exact vpi8 hok.1 hok.2
  with_reducible refine And.intro ?_ ?_
  omega
  with_reducible refine And.intro ?_ ?_
  omega
  with_reducible exact hQ hok _ (hC.num _)
set_option maxHeartbeats 4000000 in
theorem fX1_setSmall {s : AS} {a0 a1 : Int32} (hC : CS g w0 x nA cA lA kn s w) (hX : ¬ okN a0 → (Q (.inr "java/lang/IndexOutOfBoundsException") w)) (hQ : okN a0 → ∀ w', CS g w0 x nA cA lA kn (sN s (vp_updL s.1 a0.toNatClampNeg a1.toInt64)) w' → Q (.inl (some (.int (loV (s.1 a0.toNatClampNeg))))) w') : WP (MX1_setSmall g) Q (0, [some (.ref x), some (.int a0), some (.int a1), none], [], w, 0, 0) := by
  obtain ⟨gc, gl, ⟨hx, hn, hc, hl, hgc, hgl, hn0, hn1, rx, rn, rc, rl, ⟨d1, d2, d3, d4, d5, d6⟩, ⟨d7, d8, d9, d10, d11, d12⟩⟩, hcd, hpl⟩ := hC.1.opn g
  simp only [eX1_setSmall_0, eX1_setSmall_4, eX1_setSmall_8, wt_nil, Nat.zero_add]
  with_reducible refine And.intro ?_ ?_
  omega
  with_reducible refine And.intro ?_ ?_
  omega
  with_reducible refine And.intro ?_ ?_
  omega
  with_reducible refine fX1_needNumber (fun _ => ?_) (fun hok => ?_)
  simp only [kx_r]
  with_reducible exact hX (by assumption)
  simp only [eX1_setSmall_9, eX1_setSmall_10, rx, rn, kx_l, go_s, gl_s, wt_nil, tl_n, g0, ex1, Nat.add_zero]
  with_reducible refine And.intro ?_ ?_
  with_reducible exact vpi8 hok.1 hok.2
  with_reducible refine And.intro ?_ ?_
  omega
  with_reducible refine And.intro ?_ ?_
  omega
  with_reducible refine And.intro ?_ ?_
  omega
  with_reducible refine fX1_lowOf ?_
  simp only [eX1_setSmall_13, eX1_setSmall_18, eX1_setSmall_22, rx, hn, kx_l, go_s, gl_s, nl_int, tl_s, g0, ex1]
  with_reducible refine And.intro ?_ ?_
  with_reducible exact vpi8 hok.1 hok.2
  with_reducible refine And.intro ?_ ?_
  omega
  with_reducible refine And.intro ?_ ?_
  omega
  with_reducible exact hQ hok _ (hC.num _)
end
end
/-! 71.fn3.lean.txt -/
section
section
variable {g : RO} {Q : Ot → Hw → Prop} {w0 w : Hw} {x nA cA lA : Nat} {kn : Int32}
set_option maxHeartbeats 4000000 in
theorem fX1_setEnd {s : AS} {a0 a1 : Int32} (hC : CS g w0 x nA cA lA kn s w) (hX : ¬ okN a0 → (Q (.inr "java/lang/IndexOutOfBoundsException") w)) (hW : okN a0 → ¬ okW a1 3 → (Q (.inr "java/lang/IllegalArgumentException") w)) (hQ : okN a0 → okW a1 3 → ∀ w', CS g w0 x nA cA lA kn (sN s (vp_updL s.1 a0.toNatClampNeg (frV a1))) w' → Q (.inl (some (.int (loV (frV a1))))) w') : WP (MX1_setEnd g) Q (0, [some (.ref x), some (.int a0), some (.int a1)], [], w, 0, 0) := by
  obtain ⟨gc, gl, ⟨hx, hn, hc, hl, hgc, hgl, hn0, hn1, rx, rn, rc, rl, ⟨d1, d2, d3, d4, d5, d6⟩, ⟨d7, d8, d9, d10, d11, d12⟩⟩, hcd, hpl⟩ := hC.1.opn g
  simp only [eX1_setEnd_0, eX1_setEnd_4, eX1_setEnd_9, wt_nil, wt_int, wt_ref, Nat.zero_add, Nat.add_zero]
  with_reducible refine And.intro ?_ ?_
  omega
  with_reducible refine And.intro ?_ ?_
  omega
  with_reducible refine And.intro ?_ ?_
  omega
  with_reducible refine fX1_needNumber (fun _ => ?_) (fun hok => ?_)
  simp only [kx_r]
  with_reducible exact hX (by assumption)
  simp only [kx_l, wt_nil, tl_n]
  with_reducible refine And.intro ?_ ?_
  omega
  with_reducible refine And.intro ?_ ?_
  omega
  with_reducible refine And.intro ?_ ?_
  omega
  with_reducible refine fX1_needChoice (fun hnw => ?_) (fun hw => ?_)
  simp only [kx_r]
  with_reducible exact hW hok hnw
  simp only [kx_l, wt_nil, tl_n, Nat.add_zero]
  with_reducible refine And.intro ?_ ?_
  omega
  with_reducible refine And.intro ?_ ?_
  omega
  with_reducible refine And.intro ?_ ?_
  omega
  with_reducible refine fX1_farNumber ?_
  simp only [eX1_setEnd_15, rx, kx_l, go_s, wt_nil, tl_s, true_and, Nat.add_zero]
  with_reducible refine And.intro ?_ ?_
  omega
  with_reducible refine And.intro ?_ ?_
  omega
  with_reducible refine And.intro ?_ ?_
  omega
  with_reducible refine fX1_putNumber hC hok.1 hok.2 (fun w1 h1 => ?_)
  simp only [eX1_setEnd_18, kx_l, tl_s]
  with_reducible refine And.intro ?_ ?_
  omega
  with_reducible refine And.intro ?_ ?_
  omega
  with_reducible exact hQ hok hw _ h1
set_option maxHeartbeats 4000000 in
theorem fX1_move {s : AS} {a0 a1 : Int32} (hC : CS g w0 x nA cA lA kn s w) (hX : ¬ okN a0 → (Q (.inr "java/lang/IndexOutOfBoundsException") w)) (hQ : okN a0 → ∀ w', CS g w0 x nA cA lA kn (sN s (vp_updL s.1 a0.toNatClampNeg (s.1 a0.toNatClampNeg + a1.toInt64))) w' → Q (.inl (some (.int (loV (s.1 a0.toNatClampNeg + a1.toInt64))))) w') : WP (MX1_move g) Q (0, [some (.ref x), some (.int a0), some (.int a1)], [], w, 0, 0) := by
  obtain ⟨gc, gl, ⟨hx, hn, hc, hl, hgc, hgl, hn0, hn1, rx, rn, rc, rl, ⟨d1, d2, d3, d4, d5, d6⟩, ⟨d7, d8, d9, d10, d11, d12⟩⟩, hcd, hpl⟩ := hC.1.opn g
  simp only [eX1_move_0, eX1_move_4, eX1_move_10, wt_nil, Nat.zero_add]
  with_reducible refine And.intro ?_ ?_
  omega
  with_reducible refine And.intro ?_ ?_
  omega
  with_reducible refine And.intro ?_ ?_
  omega
  with_reducible refine fX1_needNumber (fun _ => ?_) (fun hok => ?_)
  simp only [kx_r]
  with_reducible exact hX (by assumption)
  simp only [eX1_move_11, eX1_move_12, rx, rn, kx_l, go_s, gl_s, wt_nil, tl_n, g0, ex1, true_and, Nat.add_zero]
  with_reducible refine And.intro ?_ ?_
  with_reducible exact vpi8 hok.1 hok.2
  with_reducible refine And.intro ?_ ?_
  omega
  with_reducible refine And.intro ?_ ?_
  omega
  with_reducible refine And.intro ?_ ?_
  omega
  with_reducible refine fX1_putNumber hC hok.1 hok.2 (fun w1 h1 => ?_)
  simp only [eX1_move_18, kx_l, tl_s]
  with_reducible refine And.intro ?_ ?_
  omega
  with_reducible refine And.intro ?_ ?_
  omega
  with_reducible exact hQ hok _ h1
set_option maxHeartbeats 4000000 in
theorem fX1_copy {s : AS} {a0 a1 : Int32} (hC : CS g w0 x nA cA lA kn s w) (hX : ¬ (okN a0 ∧ okN a1) → (Q (.inr "java/lang/IndexOutOfBoundsException") w)) (hQ : okN a0 → okN a1 → ∀ w', CS g w0 x nA cA lA kn (sN s (vp_updL s.1 a0.toNatClampNeg (s.1 a1.toNatClampNeg))) w' → Q (.inl (some (.int (loV (s.1 a1.toNatClampNeg))))) w') : WP (MX1_copy g) Q (0, [some (.ref x), some (.int a0), some (.int a1)], [], w, 0, 0) := by
  obtain ⟨gc, gl, ⟨hx, hn, hc, hl, hgc, hgl, hn0, hn1, rx, rn, rc, rl, ⟨d1, d2, d3, d4, d5, d6⟩, ⟨d7, d8, d9, d10, d11, d12⟩⟩, hcd, hpl⟩ := hC.1.opn g
  simp only [eX1_copy_0, eX1_copy_4, eX1_copy_8, eX1_copy_14, wt_nil, Nat.zero_add]
  with_reducible refine And.intro ?_ ?_
  omega
  with_reducible refine And.intro ?_ ?_
  omega
  with_reducible refine And.intro ?_ ?_
  omega
  with_reducible refine fX1_needNumber (a0 := a0) (fun _ => ?_) (fun ha => ?_)
  simp only [kx_r]
  with_reducible exact hX (fun h => absurd h.1 (by assumption))
  simp only [kx_l, wt_nil, tl_n]
  with_reducible refine And.intro ?_ ?_
  omega
  with_reducible refine And.intro ?_ ?_
  omega
  with_reducible refine And.intro ?_ ?_
  omega
  with_reducible refine fX1_needNumber (a0 := a1) (fun _ => ?_) (fun hb => ?_)
  simp only [kx_r]
  with_reducible exact hX (fun h => absurd h.2 (by assumption))
  simp only [eX1_copy_15, eX1_copy_16, rx, rn, kx_l, go_s, gl_s, wt_nil, tl_n, g0, ex1, true_and, Nat.add_zero]
  with_reducible refine And.intro ?_ ?_
  with_reducible exact vpi8 hb.1 hb.2
  with_reducible refine And.intro ?_ ?_
  omega
  with_reducible refine And.intro ?_ ?_
  omega
  with_reducible refine And.intro ?_ ?_
  omega
  with_reducible refine fX1_putNumber hC ha.1 ha.2 (fun w1 h1 => ?_)
  simp only [eX1_copy_19, kx_l, tl_s]
  with_reducible refine And.intro ?_ ?_
  omega
  with_reducible refine And.intro ?_ ?_
  omega
  with_reducible exact hQ ha hb _ h1
set_option maxHeartbeats 4000000 in
theorem fX1_ofNumber {s : AS} {a0 a1 : Int32} (hC : CS g w0 x nA cA lA kn s w) (hX : ¬ okN a0 → (Q (.inr "java/lang/IndexOutOfBoundsException") w)) (hQ : okN a0 → Q (.inl (some (.int (hfV (s.1 a0.toNatClampNeg) a1)))) w) : WP (MX1_ofNumber g) Q (0, [some (.ref x), some (.int a0), some (.int a1)], [], w, 0, 0) := by
  obtain ⟨gc, gl, ⟨hx, hn, hc, hl, hgc, hgl, hn0, hn1, rx, rn, rc, rl, ⟨d1, d2, d3, d4, d5, d6⟩, ⟨d7, d8, d9, d10, d11, d12⟩⟩, hcd, hpl⟩ := hC.1.opn g
  simp only [eX1_ofNumber_0, eX1_ofNumber_4, eX1_ofNumber_8, wt_nil, Nat.zero_add]
  with_reducible refine And.intro ?_ ?_
  omega
  with_reducible refine And.intro ?_ ?_
  omega
  with_reducible refine And.intro ?_ ?_
  omega
  with_reducible refine fX1_needNumber (fun _ => ?_) (fun hok => ?_)
  simp only [kx_r]
  with_reducible exact hX (by assumption)
  simp only [eX1_ofNumber_9, eX1_ofNumber_10, rx, rn, kx_l, go_s, gl_s, wt_nil, tl_n, g0, ex1, Nat.add_zero]
  with_reducible refine And.intro ?_ ?_
  with_reducible exact vpi8 hok.1 hok.2
  with_reducible refine And.intro ?_ ?_
  omega
  with_reducible refine And.intro ?_ ?_
  omega
  with_reducible refine And.intro ?_ ?_
  omega
  with_reducible refine fX1_halfOf ?_
  simp only [eX1_ofNumber_14, kx_l, tl_s]
  with_reducible refine And.intro ?_ ?_
  omega
  with_reducible refine And.intro ?_ ?_
  omega
  with_reducible exact hQ hok
def orV (a b : Int64) : Int32 := if a.toInt < b.toInt then -1 else if b.toInt < a.toInt then 1 else 0
theorem orV_1 {a b : Int64} (h : a.toInt < b.toInt) : orV a b = -1 := if_pos h
theorem orV_2 {a b : Int64} (h : ¬ a.toInt < b.toInt) (k : b.toInt < a.toInt) : orV a b = 1 := by
  unfold orV
  rw [if_neg h, if_pos k]
theorem orV_3 {a b : Int64} (h : ¬ a.toInt < b.toInt) (k : ¬ b.toInt < a.toInt) : orV a b = 0 := by
  unfold orV
  rw [if_neg h, if_neg k]
set_option maxHeartbeats 4000000 in
theorem fX1_order {s : AS} {a0 a1 : Int32} (hC : CS g w0 x nA cA lA kn s w) (hX : ¬ (okN a0 ∧ okN a1) → (Q (.inr "java/lang/IndexOutOfBoundsException") w)) (hQ : okN a0 → okN a1 → Q (.inl (some (.int (orV (s.1 a0.toNatClampNeg) (s.1 a1.toNatClampNeg))))) w) : WP (MX1_order g) Q (0, [some (.ref x), some (.int a0), some (.int a1)], [], w, 0, 0) := by
  obtain ⟨gc, gl, ⟨hx, hn, hc, hl, hgc, hgl, hn0, hn1, rx, rn, rc, rl, ⟨d1, d2, d3, d4, d5, d6⟩, ⟨d7, d8, d9, d10, d11, d12⟩⟩, hcd, hpl⟩ := hC.1.opn g
  simp only [eX1_order_0, eX1_order_4, eX1_order_8, eX1_order_12, wt_nil, Nat.zero_add]
  with_reducible refine And.intro ?_ ?_
  omega
  with_reducible refine And.intro ?_ ?_
  omega
  with_reducible refine And.intro ?_ ?_
  omega
  with_reducible refine fX1_needNumber (a0 := a0) (fun _ => ?_) (fun ha => ?_)
  simp only [kx_r]
  with_reducible exact hX (fun h => absurd h.1 (by assumption))
  simp only [kx_l, wt_nil, tl_n]
  with_reducible refine And.intro ?_ ?_
  omega
  with_reducible refine And.intro ?_ ?_
  omega
  with_reducible refine And.intro ?_ ?_
  omega
  with_reducible refine fX1_needNumber (a0 := a1) (fun _ => ?_) (fun hb => ?_)
  simp only [kx_r]
  with_reducible exact hX (fun h => absurd h.2 (by assumption))
  simp only [eX1_order_13, eX1_order_14, eX1_order_18, eX1_order_20, eX1_order_24, eX1_order_26, eX1_order_30, eX1_order_32, eX1_order_36, eX1_order_38, eX1_order_42, eX1_order_46, eX1_order_47, lgp, lgn, rx, rn, ite_le, kx_l, go_s, gl_s, tl_n, g0, ex1]
  with_reducible refine And.intro ?_ ?_
  with_reducible exact vpi8 ha.1 ha.2
  with_reducible refine And.intro ?_ ?_
  with_reducible exact vpi8 hb.1 hb.2
  split
  with_reducible refine And.intro ?_ ?_
  omega
  with_reducible refine And.intro ?_ ?_
  omega
  (rw [orV_1 (by assumption)] at hQ; exact hQ ha hb)
  with_reducible refine And.intro ?_ ?_
  with_reducible exact vpi8 ha.1 ha.2
  with_reducible refine And.intro ?_ ?_
  with_reducible exact vpi8 hb.1 hb.2
  split
  with_reducible refine And.intro ?_ ?_
  omega
  with_reducible refine And.intro ?_ ?_
  omega
  (rw [orV_2 (by assumption) (by assumption)] at hQ; exact hQ ha hb)
  with_reducible refine And.intro ?_ ?_
  omega
  with_reducible refine And.intro ?_ ?_
  omega
  (rw [orV_3 (by assumption) (by assumption)] at hQ; exact hQ ha hb)
set_option maxHeartbeats 4000000 in
theorem fX1_knock {s : AS} (hC : CS g w0 x nA cA lA kn s w) (hQ : ∀ w', CS g w0 x nA cA lA (kn + 1) s w' → Q (.inl (some (.int (kn + 1)))) w') : WP (MX1_knock g) Q (0, [some (.ref x)], [], w, 0, 0) := by
  obtain ⟨gc, gl, ⟨hx, hn, hc, hl, hgc, hgl, hn0, hn1, rx, rn, rc, rl, ⟨d1, d2, d3, d4, d5, d6⟩, ⟨d7, d8, d9, d10, d11, d12⟩⟩, hcd, hpl⟩ := hC.1.opn g
  simp only [eX1_knock_0, eX1_knock_5, eX1_knock_10, eX1_knock_14, rx, hx, go_s, g0, gS, ex1, nf_i, true_and, List.set_cons_zero, List.set_cons_succ, List.length_cons, List.length_nil, rd_s, Nat.zero_add]
  with_reducible refine And.intro ?_ ?_
  omega
  with_reducible refine And.intro ?_ ?_
  omega
  with_reducible refine And.intro ?_ ?_
  omega
  with_reducible exact hQ _ (hC.obj _ _ _)
set_option maxHeartbeats 4000000 in
theorem fX1_refuse {s : AS} (hC : CS g w0 x nA cA lA kn s w) (hQ : ∀ w', CS g w0 x nA cA lA kn (sR_ s (s.2.2.2.2.1 + 1)) w' → (∀ b r, rAt w b r → rAt w' b r) → Q (.inl (some (.int (-9)))) w') : WP (MX1_refuse g) Q (0, [some (.ref x)], [], w, 0, 0) := by
  obtain ⟨gc, gl, ⟨hx, hn, hc, hl, hgc, hgl, hn0, hn1, rx, rn, rc, rl, ⟨d1, d2, d3, d4, d5, d6⟩, ⟨d7, d8, d9, d10, d11, d12⟩⟩, hcd, hpl⟩ := hC.1.opn g
  simp only [eX1_refuse_0, eX1_refuse_5, eX1_refuse_10, rx, hx, go_s, g0, gS, ex1, nf_i, true_and, List.set_cons_zero, List.set_cons_succ, List.length_cons, List.length_nil, Nat.zero_add]
  with_reducible refine And.intro ?_ ?_
  omega
  with_reducible refine And.intro ?_ ?_
  omega
  with_reducible refine And.intro ?_ ?_
  omega
  with_reducible exact hQ _ (hC.obj _ _ _) (fun b r hb => rAt_up2 hb hx (by simp))
theorem go_Fw {b : Nat} {r : R4} {K : List Value → Prop} (h : rAt w b r) (k : K [.long r.1, .long r.2.1, .long r.2.2.1, .long r.2.2.2]) : go (w b) 4 K := by
  rw [h, go_s]
  exact k
theorem c6 {a : Int32} (h : okC a) : a.toNatClampNeg < 6 := by
  have h1 := i32_0 h.1
  have h2 := i32_lt h.2
  have z : (6 : Int32).toInt = 6 := rfl
  have e : a.toNatClampNeg = a.toInt.toNat := rfl
  omega
theorem cdN {gc : Nat → Option Nat} {s : AS} {a : Int32} (hcd : ∀ i, i < 6 → cM w (gc i) (s.2.1 i)) (hok : okC a) (h : gc a.toNatClampNeg = none) : s.2.1 a.toNatClampNeg = none := by
  have k := hcd _ (c6 hok)
  rw [h] at k
  exact k.n
theorem cdS {gc : Nat → Option Nat} {s : AS} {a : Int32} {b : Nat} (hcd : ∀ i, i < 6 → cM w (gc i) (s.2.1 i)) (hok : okC a) (h : gc a.toNatClampNeg = some b) : ∃ r, s.2.1 a.toNatClampNeg = some r ∧ rAt w b r := by
  have k := hcd _ (c6 hok)
  rw [h] at k
  exact k.s
set_option maxHeartbeats 4000000 in
theorem fX1_giveR {s : AS} {a0 : Int32} {a1 : Nat} {r : R4} (hC : CS g w0 x nA cA lA kn s w) (h1 : rAt w a1 r) (k0 : ¬ a0 < 0) (k1 : a0 < 6) (hQ : ∀ w', CS g w0 x nA cA lA kn (sM_ (sC s (va_up s.2.1 a0.toNatClampNeg (some r))) (s.2.2.2.2.2 + 1)) w' → (∀ b r, rAt w b r → rAt w' b r) → Q (.inl (some (.int 1))) w') : WP (MX1_give g) Q (0, [some (.ref x), some (.int a0), some (.ref a1)], [], w, 0, 0) := by
  obtain ⟨gc, gl, ⟨hx, hn, hc, hl, hgc, hgl, hn0, hn1, rx, rn, rc, rl, ⟨d1, d2, d3, d4, d5, d6⟩, ⟨d7, d8, d9, d10, d11, d12⟩⟩, hcd, hpl⟩ := hC.1.opn g
  simp only [eX1_give_0, eX1_give_1R, eX1_give_9, eX1_give_13, eX1_give_16, eX1_give_21, eX1_give_26, not_false_eq_true, rx, hx, hc, d2, rd_n, upw_n, n45, or_false, false_and, go_s, gq_s, g0, gS, ex1, nf_i, true_and, List.set_cons_zero, List.set_cons_succ, List.length_cons, List.length_nil, ne_eq, not_false_eq_true, Nat.zero_add]
  with_reducible refine And.intro ?_ ?_
  with_reducible exact vpi6 (by assumption) (by assumption)
  with_reducible refine And.intro ?_ ?_
  with_reducible exact go_Fw h1 trivial
  with_reducible refine And.intro ?_ ?_
  omega
  with_reducible refine And.intro ?_ ?_
  omega
  with_reducible refine And.intro ?_ ?_
  omega
  ((with_reducible refine isQ (Q := Q) ?_); exact hQ _ ((hC.card gc hc a0.toNatClampNeg (some a1) (some r) h1).obj _ _ _) (fun b q hb => rAt_up2 (rAt_up2 hb hc (by simp)) (by rw [upw_n d2]; exact hx) (by simp)))
set_option maxHeartbeats 4000000 in
theorem fX1_giveN {s : AS} {a0 : Int32} (hC : CS g w0 x nA cA lA kn s w) (hQ : ∀ w', CS g w0 x nA cA lA kn (sR_ s (s.2.2.2.2.1 + 1)) w' → (∀ b r, rAt w b r → rAt w' b r) → Q (.inl (some (.int (-9)))) w') : WP (MX1_give g) Q (0, [some (.ref x), some (.int a0), some .null], [], w, 0, 0) := by
  obtain ⟨gc, gl, ⟨hx, hn, hc, hl, hgc, hgl, hn0, hn1, rx, rn, rc, rl, ⟨d1, d2, d3, d4, d5, d6⟩, ⟨d7, d8, d9, d10, d11, d12⟩⟩, hcd, hpl⟩ := hC.1.opn g
  simp only [eX1_give_0N, eX1_give_1N, eX1_give_4, rx, go_s, wt_nil, true_and, Nat.add_zero]
  with_reducible refine And.intro ?_ ?_
  omega
  with_reducible refine And.intro ?_ ?_
  omega
  with_reducible refine And.intro ?_ ?_
  omega
  with_reducible refine fX1_refuse hC (fun w1 h1 h2 => ?_)
  simp only [eX1_give_8, kx_l, tl_s]
  with_reducible refine And.intro ?_ ?_
  omega
  with_reducible refine And.intro ?_ ?_
  omega
  with_reducible exact hQ _ (by assumption) (by assumption)
set_option maxHeartbeats 4000000 in
theorem fX1_rangeOf {s : AS} {a0 : Int32} (hC : CS g w0 x nA cA lA kn s w) (hX : ¬ okC a0 → (Q (.inr "java/lang/IndexOutOfBoundsException") w)) (hS : okC a0 → s.2.1 a0.toNatClampNeg = none → (Q (.inr "java/lang/IllegalStateException") w)) (hQ : okC a0 → ∀ b r, s.2.1 a0.toNatClampNeg = some r → rAt w b r → Q (.inl (some (.ref b))) w) : WP (MX1_rangeOf g) Q (0, [some (.ref x), some (.int a0), none], [], w, 0, 0) := by
  obtain ⟨gc, gl, ⟨hx, hn, hc, hl, hgc, hgl, hn0, hn1, rx, rn, rc, rl, ⟨d1, d2, d3, d4, d5, d6⟩, ⟨d7, d8, d9, d10, d11, d12⟩⟩, hcd, hpl⟩ := hC.1.opn g
  simp only [eX1_rangeOf_0, eX1_rangeOf_4, eX1_rangeOf_8, wt_nil, Nat.zero_add]
  with_reducible refine And.intro ?_ ?_
  omega
  with_reducible refine And.intro ?_ ?_
  omega
  with_reducible refine And.intro ?_ ?_
  omega
  with_reducible refine fX1_needCard (fun _ => ?_) (fun hok => ?_)
  simp only [kx_r]
  with_reducible exact hX (by assumption)
  simp only [eX1_rangeOf_9, eX1_rangeOf_10, eX1_rangeOf_10N, eX1_rangeOf_11, eX1_rangeOf_11N, eX1_rangeOf_12R, eX1_rangeOf_12N, eX1_rangeOf_15, eX1_rangeOf_25, rx, rc, n45, or_false, kx_l, go_s, gq_s, wt_nil, nl_int, rf_st, tl_n, g0, gS, ex1, true_and]
  with_reducible refine And.intro ?_ ?_
  with_reducible exact vpi6 hok.1 hok.2
  with_reducible refine And.intro ?_ ?_
  with_reducible intro _
  with_reducible refine And.intro ?_ ?_
  omega
  with_reducible refine And.intro ?_ ?_
  omega
  with_reducible refine And.intro ?_ ?_
  omega
  with_reducible refine And.intro ?_ ?_
  omega
  with_reducible exact hS hok (cdN hcd hok (by assumption))
  with_reducible intro _
  with_reducible intro _
  with_reducible refine And.intro ?_ ?_
  omega
  with_reducible refine And.intro ?_ ?_
  omega
  with_reducible exact (cdS hcd hok (by assumption)).elim (fun r h => hQ hok _ r h.1 h.2)
end
end
/-! 71.fn4.lean.txt -/
section
section
variable {g : RO} {Q : Ot → Hw → Prop} {w0 w : Hw} {x nA cA lA : Nat} {kn : Int32}
theorem rAt_new {q : Nat} {a b c d : Int64} : rAt (upw w q (.inr (4, [.long a, .long b, .long c, .long d]))) q (a, b, c, d) := upw_s _ _ _
theorem go_5 {s : AS} (h : CS g w0 x nA cA lA kn s w) : go (rd g w x) 5 fun _ => True := by
  obtain ⟨gc, gl, h1, -⟩ := h.1.opn g
  rw [h1.2.2.2.2.2.2.2.2.1, go_s]
  trivial
/-- a card gets the range (refused: counted) -/
abbrev sMk (s : AS) (j : Nat) (r : R4) : AS := sM_ (sC s (va_up s.2.1 j (some r))) (s.2.2.2.2.2 + 1)
abbrev sRf (s : AS) : AS := sR_ s (s.2.2.2.2.1 + 1)
set_option maxHeartbeats 4000000 in
theorem fX1_two {s : AS} {a0 : Int32} {a1 : Int32} {a2 : Int32} (hC : CS g w0 x nA cA lA kn s w) (hX : ¬ (okC a0 ∧ okN a1 ∧ okN a2) → (Q (.inr "java/lang/IndexOutOfBoundsException") w)) (hT : okC a0 → okN a1 → okN a2 → oP (s.1 a1.toNatClampNeg) (s.1 a1.toNatClampNeg) (s.1 a2.toNatClampNeg) (s.1 a2.toNatClampNeg) → ∀ w', CS g w0 x nA cA lA kn (sMk s a0.toNatClampNeg (s.1 a1.toNatClampNeg, s.1 a1.toNatClampNeg, s.1 a2.toNatClampNeg, s.1 a2.toNatClampNeg)) w' → Q (.inl (some (.int 1))) w') (hF : okC a0 → okN a1 → okN a2 → ¬ oP (s.1 a1.toNatClampNeg) (s.1 a1.toNatClampNeg) (s.1 a2.toNatClampNeg) (s.1 a2.toNatClampNeg) → ∀ w', CS g w0 x nA cA lA kn (sRf s) w' → Q (.inl (some (.int (-9)))) w') : WP (MX1_two g) Q (0, [some (.ref x), some (.int a0), some (.int a1), some (.int a2)], [], w, 0, 0) := by
  obtain ⟨gc, gl, ⟨hx, hn, hc, hl, hgc, hgl, hn0, hn1, rx, rn, rc, rl, ⟨d1, d2, d3, d4, d5, d6⟩, ⟨d7, d8, d9, d10, d11, d12⟩⟩, hcd, hpl⟩ := hC.1.opn g
  simp only [eX1_two_0, eX1_two_4, eX1_two_8, eX1_two_12, eX1_two_18, wt_nil, Nat.zero_add]
  with_reducible refine And.intro ?_ ?_
  omega
  with_reducible refine And.intro ?_ ?_
  omega
  with_reducible refine And.intro ?_ ?_
  omega
  with_reducible refine fX1_needCard (a0 := a0) (fun _ => ?_) (fun k0 => ?_)
  simp only [kx_r]
  with_reducible exact hX (fun h => absurd h.1 (by assumption))
  simp only [kx_l, wt_nil, tl_n]
  with_reducible refine And.intro ?_ ?_
  omega
  with_reducible refine And.intro ?_ ?_
  omega
  with_reducible refine And.intro ?_ ?_
  omega
  with_reducible refine fX1_needNumber (a0 := a1) (fun _ => ?_) (fun k1 => ?_)
  simp only [kx_r]
  with_reducible exact hX (fun h => absurd h.2.1 (by assumption))
  simp only [kx_l, wt_nil, tl_n]
  with_reducible refine And.intro ?_ ?_
  omega
  with_reducible refine And.intro ?_ ?_
  omega
  with_reducible refine And.intro ?_ ?_
  omega
  with_reducible refine fX1_needNumber (a0 := a2) (fun _ => ?_) (fun k2 => ?_)
  simp only [kx_r]
  with_reducible exact hX (fun h => absurd h.2.2 (by assumption))
  simp only [eX1_two_19, eX1_two_20, eX1_two_24, eX1_two_26, rx, rn, kx_l, go_s, gl_s, wt_nil, wt_int, wt_ref, tl_n, g0, ex1, Nat.add_zero]
  with_reducible refine And.intro ?_ ?_
  with_reducible exact vpi8 k1.1 k1.2
  with_reducible refine And.intro ?_ ?_
  with_reducible exact vpi8 k2.1 k2.2
  with_reducible refine And.intro ?_ ?_
  omega
  with_reducible refine And.intro ?_ ?_
  omega
  with_reducible refine And.intro ?_ ?_
  omega
  with_reducible refine fX0_ofTwo (fun hno => ?_) (fun hyes q hq => ?_)
  simp only [eX1_two_29N, rx, kx_l, go_s, wt_nil, tl_s, true_and, Nat.add_zero]
  with_reducible refine And.intro ?_ ?_
  omega
  with_reducible refine And.intro ?_ ?_
  omega
  with_reducible refine And.intro ?_ ?_
  omega
  with_reducible refine fX1_giveN hC (fun w1 g1 g2 => ?_)
  simp only [eX1_two_32, kx_l, tl_s]
  with_reducible refine And.intro ?_ ?_
  omega
  with_reducible refine And.intro ?_ ?_
  omega
  with_reducible exact hF k0 k1 k2 hno w1 g1
  simp only [eX1_two_29R, kx_l, wt_nil, tl_s, Nat.add_zero]
  with_reducible refine And.intro ?_ ?_
  with_reducible exact go_5 (hC.ext (ext_up2 ext.rf hq))
  with_reducible refine And.intro ?_ ?_
  omega
  with_reducible refine And.intro ?_ ?_
  omega
  with_reducible refine And.intro ?_ ?_
  omega
  with_reducible refine fX1_giveR (hC.ext (ext_up2 ext.rf hq)) rAt_new k0.1 k0.2 (fun w1 g1 g2 => ?_)
  simp only [eX1_two_32, kx_l, tl_s]
  with_reducible refine And.intro ?_ ?_
  omega
  with_reducible refine And.intro ?_ ?_
  omega
  with_reducible exact hT k0 k1 k2 hyes w1 g1
set_option maxHeartbeats 4000000 in
theorem fX1_three {s : AS} {a0 : Int32} {a1 : Int32} {a2 : Int32} {a3 : Int32} (hC : CS g w0 x nA cA lA kn s w) (hX : ¬ (okC a0 ∧ okN a1 ∧ okN a2 ∧ okN a3) → (Q (.inr "java/lang/IndexOutOfBoundsException") w)) (hT : okC a0 → okN a1 → okN a2 → okN a3 → oP (s.1 a1.toNatClampNeg) (s.1 a1.toNatClampNeg) (s.1 a2.toNatClampNeg) (s.1 a3.toNatClampNeg) → ∀ w', CS g w0 x nA cA lA kn (sMk s a0.toNatClampNeg (s.1 a1.toNatClampNeg, s.1 a1.toNatClampNeg, s.1 a2.toNatClampNeg, s.1 a3.toNatClampNeg)) w' → Q (.inl (some (.int 1))) w') (hF : okC a0 → okN a1 → okN a2 → okN a3 → ¬ oP (s.1 a1.toNatClampNeg) (s.1 a1.toNatClampNeg) (s.1 a2.toNatClampNeg) (s.1 a3.toNatClampNeg) → ∀ w', CS g w0 x nA cA lA kn (sRf s) w' → Q (.inl (some (.int (-9)))) w') : WP (MX1_three g) Q (0, [some (.ref x), some (.int a0), some (.int a1), some (.int a2), some (.int a3)], [], w, 0, 0) := by
  obtain ⟨gc, gl, ⟨hx, hn, hc, hl, hgc, hgl, hn0, hn1, rx, rn, rc, rl, ⟨d1, d2, d3, d4, d5, d6⟩, ⟨d7, d8, d9, d10, d11, d12⟩⟩, hcd, hpl⟩ := hC.1.opn g
  simp only [eX1_three_0, eX1_three_4, eX1_three_8, eX1_three_12, eX1_three_17, eX1_three_23, wt_nil, Nat.zero_add]
  with_reducible refine And.intro ?_ ?_
  omega
  with_reducible refine And.intro ?_ ?_
  omega
  with_reducible refine And.intro ?_ ?_
  omega
  with_reducible refine fX1_needCard (a0 := a0) (fun _ => ?_) (fun k0 => ?_)
  simp only [kx_r]
  with_reducible exact hX (fun h => absurd h.1 (by assumption))
  simp only [kx_l, wt_nil, tl_n]
  with_reducible refine And.intro ?_ ?_
  omega
  with_reducible refine And.intro ?_ ?_
  omega
  with_reducible refine And.intro ?_ ?_
  omega
  with_reducible refine fX1_needNumber (a0 := a1) (fun _ => ?_) (fun k1 => ?_)
  simp only [kx_r]
  with_reducible exact hX (fun h => absurd h.2.1 (by assumption))
  simp only [kx_l, wt_nil, tl_n]
  with_reducible refine And.intro ?_ ?_
  omega
  with_reducible refine And.intro ?_ ?_
  omega
  with_reducible refine And.intro ?_ ?_
  omega
  with_reducible refine fX1_needNumber (a0 := a2) (fun _ => ?_) (fun k2 => ?_)
  simp only [kx_r]
  with_reducible exact hX (fun h => absurd h.2.2.1 (by assumption))
  simp only [kx_l, wt_nil, tl_n]
  with_reducible refine And.intro ?_ ?_
  omega
  with_reducible refine And.intro ?_ ?_
  omega
  with_reducible refine And.intro ?_ ?_
  omega
  with_reducible refine fX1_needNumber (a0 := a3) (fun _ => ?_) (fun k3 => ?_)
  simp only [kx_r]
  with_reducible exact hX (fun h => absurd h.2.2.2 (by assumption))
  simp only [eX1_three_24, eX1_three_25, eX1_three_29, eX1_three_31, eX1_three_35, eX1_three_38, rx, rn, kx_l, go_s, gl_s, wt_nil, wt_int, wt_ref, tl_n, g0, ex1, Nat.add_zero]
  with_reducible refine And.intro ?_ ?_
  with_reducible exact vpi8 k1.1 k1.2
  with_reducible refine And.intro ?_ ?_
  with_reducible exact vpi8 k2.1 k2.2
  with_reducible refine And.intro ?_ ?_
  with_reducible exact vpi8 k3.1 k3.2
  with_reducible refine And.intro ?_ ?_
  omega
  with_reducible refine And.intro ?_ ?_
  omega
  with_reducible refine And.intro ?_ ?_
  omega
  with_reducible refine fX0_ofThree (fun hno => ?_) (fun hyes q hq => ?_)
  simp only [eX1_three_41N, rx, kx_l, go_s, wt_nil, tl_s, true_and, Nat.add_zero]
  with_reducible refine And.intro ?_ ?_
  omega
  with_reducible refine And.intro ?_ ?_
  omega
  with_reducible refine And.intro ?_ ?_
  omega
  with_reducible refine fX1_giveN hC (fun w1 g1 g2 => ?_)
  simp only [eX1_three_44, kx_l, tl_s]
  with_reducible refine And.intro ?_ ?_
  omega
  with_reducible refine And.intro ?_ ?_
  omega
  with_reducible exact hF k0 k1 k2 k3 hno w1 g1
  simp only [eX1_three_41R, kx_l, wt_nil, tl_s, Nat.add_zero]
  with_reducible refine And.intro ?_ ?_
  with_reducible exact go_5 (hC.ext (ext_up2 ext.rf hq))
  with_reducible refine And.intro ?_ ?_
  omega
  with_reducible refine And.intro ?_ ?_
  omega
  with_reducible refine And.intro ?_ ?_
  omega
  with_reducible refine fX1_giveR (hC.ext (ext_up2 ext.rf hq)) rAt_new k0.1 k0.2 (fun w1 g1 g2 => ?_)
  simp only [eX1_three_44, kx_l, tl_s]
  with_reducible refine And.intro ?_ ?_
  omega
  with_reducible refine And.intro ?_ ?_
  omega
  with_reducible exact hT k0 k1 k2 k3 hyes w1 g1
set_option maxHeartbeats 4000000 in
theorem fX1_four {s : AS} {a0 : Int32} {a1 : Int32} {a2 : Int32} {a3 : Int32} {a4 : Int32} (hC : CS g w0 x nA cA lA kn s w) (hX : ¬ (okC a0 ∧ okN a1 ∧ okN a2 ∧ okN a3 ∧ okN a4) → (Q (.inr "java/lang/IndexOutOfBoundsException") w)) (hT : okC a0 → okN a1 → okN a2 → okN a3 → okN a4 → oP (s.1 a1.toNatClampNeg) (s.1 a2.toNatClampNeg) (s.1 a3.toNatClampNeg) (s.1 a4.toNatClampNeg) → ∀ w', CS g w0 x nA cA lA kn (sMk s a0.toNatClampNeg (s.1 a1.toNatClampNeg, s.1 a2.toNatClampNeg, s.1 a3.toNatClampNeg, s.1 a4.toNatClampNeg)) w' → Q (.inl (some (.int 1))) w') (hF : okC a0 → okN a1 → okN a2 → okN a3 → okN a4 → ¬ oP (s.1 a1.toNatClampNeg) (s.1 a2.toNatClampNeg) (s.1 a3.toNatClampNeg) (s.1 a4.toNatClampNeg) → ∀ w', CS g w0 x nA cA lA kn (sRf s) w' → Q (.inl (some (.int (-9)))) w') : WP (MX1_four g) Q (0, [some (.ref x), some (.int a0), some (.int a1), some (.int a2), some (.int a3), some (.int a4)], [], w, 0, 0) := by
  obtain ⟨gc, gl, ⟨hx, hn, hc, hl, hgc, hgl, hn0, hn1, rx, rn, rc, rl, ⟨d1, d2, d3, d4, d5, d6⟩, ⟨d7, d8, d9, d10, d11, d12⟩⟩, hcd, hpl⟩ := hC.1.opn g
  simp only [eX1_four_0, eX1_four_4, eX1_four_8, eX1_four_12, eX1_four_17, eX1_four_22, eX1_four_28, wt_nil, Nat.zero_add]
  with_reducible refine And.intro ?_ ?_
  omega
  with_reducible refine And.intro ?_ ?_
  omega
  with_reducible refine And.intro ?_ ?_
  omega
  with_reducible refine fX1_needCard (a0 := a0) (fun _ => ?_) (fun k0 => ?_)
  simp only [kx_r]
  with_reducible exact hX (fun h => absurd h.1 (by assumption))
  simp only [kx_l, wt_nil, tl_n]
  with_reducible refine And.intro ?_ ?_
  omega
  with_reducible refine And.intro ?_ ?_
  omega
  with_reducible refine And.intro ?_ ?_
  omega
  with_reducible refine fX1_needNumber (a0 := a1) (fun _ => ?_) (fun k1 => ?_)
  simp only [kx_r]
  with_reducible exact hX (fun h => absurd h.2.1 (by assumption))
  simp only [kx_l, wt_nil, tl_n]
  with_reducible refine And.intro ?_ ?_
  omega
  with_reducible refine And.intro ?_ ?_
  omega
  with_reducible refine And.intro ?_ ?_
  omega
  with_reducible refine fX1_needNumber (a0 := a2) (fun _ => ?_) (fun k2 => ?_)
  simp only [kx_r]
  with_reducible exact hX (fun h => absurd h.2.2.1 (by assumption))
  simp only [kx_l, wt_nil, tl_n]
  with_reducible refine And.intro ?_ ?_
  omega
  with_reducible refine And.intro ?_ ?_
  omega
  with_reducible refine And.intro ?_ ?_
  omega
  with_reducible refine fX1_needNumber (a0 := a3) (fun _ => ?_) (fun k3 => ?_)
  simp only [kx_r]
  with_reducible exact hX (fun h => absurd h.2.2.2.1 (by assumption))
  simp only [kx_l, wt_nil, tl_n]
  with_reducible refine And.intro ?_ ?_
  omega
  with_reducible refine And.intro ?_ ?_
  omega
  with_reducible refine And.intro ?_ ?_
  omega
  with_reducible refine fX1_needNumber (a0 := a4) (fun _ => ?_) (fun k4 => ?_)
  simp only [kx_r]
  with_reducible exact hX (fun h => absurd h.2.2.2.2 (by assumption))
  simp only [eX1_four_29, eX1_four_30, eX1_four_34, eX1_four_36, eX1_four_40, eX1_four_43, eX1_four_47, eX1_four_50, rx, rn, kx_l, go_s, gl_s, wt_nil, wt_int, wt_ref, tl_n, g0, ex1, Nat.add_zero]
  with_reducible refine And.intro ?_ ?_
  with_reducible exact vpi8 k1.1 k1.2
  with_reducible refine And.intro ?_ ?_
  with_reducible exact vpi8 k2.1 k2.2
  with_reducible refine And.intro ?_ ?_
  with_reducible exact vpi8 k3.1 k3.2
  with_reducible refine And.intro ?_ ?_
  with_reducible exact vpi8 k4.1 k4.2
  with_reducible refine And.intro ?_ ?_
  omega
  with_reducible refine And.intro ?_ ?_
  omega
  with_reducible refine And.intro ?_ ?_
  omega
  with_reducible refine fX0_ofFour (fun hno => ?_) (fun hyes q hq => ?_)
  simp only [eX1_four_53N, rx, kx_l, go_s, wt_nil, tl_s, true_and, Nat.add_zero]
  with_reducible refine And.intro ?_ ?_
  omega
  with_reducible refine And.intro ?_ ?_
  omega
  with_reducible refine And.intro ?_ ?_
  omega
  with_reducible refine fX1_giveN hC (fun w1 g1 g2 => ?_)
  simp only [eX1_four_56, kx_l, tl_s]
  with_reducible refine And.intro ?_ ?_
  omega
  with_reducible refine And.intro ?_ ?_
  omega
  with_reducible exact hF k0 k1 k2 k3 k4 hno w1 g1
  simp only [eX1_four_53R, kx_l, wt_nil, tl_s, Nat.add_zero]
  with_reducible refine And.intro ?_ ?_
  with_reducible exact go_5 (hC.ext (ext_up2 ext.rf hq))
  with_reducible refine And.intro ?_ ?_
  omega
  with_reducible refine And.intro ?_ ?_
  omega
  with_reducible refine And.intro ?_ ?_
  omega
  with_reducible refine fX1_giveR (hC.ext (ext_up2 ext.rf hq)) rAt_new k0.1 k0.2 (fun w1 g1 g2 => ?_)
  simp only [eX1_four_56, kx_l, tl_s]
  with_reducible refine And.intro ?_ ?_
  omega
  with_reducible refine And.intro ?_ ?_
  omega
  with_reducible exact hT k0 k1 k2 k3 k4 hyes w1 g1
set_option maxHeartbeats 4000000 in
theorem fX1_twoSmall {s : AS} {a0 : Int32} {a1 : Int32} {a2 : Int32} (hC : CS g w0 x nA cA lA kn s w) (hX : ¬ (okC a0) → (Q (.inr "java/lang/IndexOutOfBoundsException") w)) (hT : okC a0 → oP (a1.toInt64) (a1.toInt64) (a2.toInt64) (a2.toInt64) → ∀ w', CS g w0 x nA cA lA kn (sMk s a0.toNatClampNeg (a1.toInt64, a1.toInt64, a2.toInt64, a2.toInt64)) w' → Q (.inl (some (.int 1))) w') (hF : okC a0 → ¬ oP (a1.toInt64) (a1.toInt64) (a2.toInt64) (a2.toInt64) → ∀ w', CS g w0 x nA cA lA kn (sRf s) w' → Q (.inl (some (.int (-9)))) w') : WP (MX1_twoSmall g) Q (0, [some (.ref x), some (.int a0), some (.int a1), some (.int a2)], [], w, 0, 0) := by
  obtain ⟨gc, gl, ⟨hx, hn, hc, hl, hgc, hgl, hn0, hn1, rx, rn, rc, rl, ⟨d1, d2, d3, d4, d5, d6⟩, ⟨d7, d8, d9, d10, d11, d12⟩⟩, hcd, hpl⟩ := hC.1.opn g
  simp only [eX1_twoSmall_0, eX1_twoSmall_4, wt_nil, wt_int, wt_ref, Nat.zero_add]
  with_reducible refine And.intro ?_ ?_
  omega
  with_reducible refine And.intro ?_ ?_
  omega
  with_reducible refine And.intro ?_ ?_
  omega
  with_reducible refine fX1_needCard (a0 := a0) (fun _ => ?_) (fun k0 => ?_)
  simp only [kx_r]
  with_reducible exact hX (fun h => absurd h (by assumption))
  simp only [kx_l, wt_nil, tl_n, Nat.add_zero]
  with_reducible refine And.intro ?_ ?_
  omega
  with_reducible refine And.intro ?_ ?_
  omega
  with_reducible refine And.intro ?_ ?_
  omega
  with_reducible refine fX0_ofTwo (fun hno => ?_) (fun hyes q hq => ?_)
  simp only [eX1_twoSmall_13N, rx, kx_l, go_s, wt_nil, tl_s, true_and, Nat.add_zero]
  with_reducible refine And.intro ?_ ?_
  omega
  with_reducible refine And.intro ?_ ?_
  omega
  with_reducible refine And.intro ?_ ?_
  omega
  with_reducible refine fX1_giveN hC (fun w1 g1 g2 => ?_)
  simp only [eX1_twoSmall_16, kx_l, tl_s]
  with_reducible refine And.intro ?_ ?_
  omega
  with_reducible refine And.intro ?_ ?_
  omega
  with_reducible exact hF k0 hno w1 g1
  simp only [eX1_twoSmall_13R, kx_l, wt_nil, tl_s, Nat.add_zero]
  with_reducible refine And.intro ?_ ?_
  with_reducible exact go_5 (hC.ext (ext_up2 ext.rf hq))
  with_reducible refine And.intro ?_ ?_
  omega
  with_reducible refine And.intro ?_ ?_
  omega
  with_reducible refine And.intro ?_ ?_
  omega
  with_reducible refine fX1_giveR (hC.ext (ext_up2 ext.rf hq)) rAt_new k0.1 k0.2 (fun w1 g1 g2 => ?_)
  simp only [eX1_twoSmall_16, kx_l, tl_s]
  with_reducible refine And.intro ?_ ?_
  omega
  with_reducible refine And.intro ?_ ?_
  omega
  with_reducible exact hT k0 hyes w1 g1
set_option maxHeartbeats 4000000 in
theorem fX1_threeSmall {s : AS} {a0 : Int32} {a1 : Int32} {a2 : Int32} {a3 : Int32} (hC : CS g w0 x nA cA lA kn s w) (hX : ¬ (okC a0) → (Q (.inr "java/lang/IndexOutOfBoundsException") w)) (hT : okC a0 → oP (a1.toInt64) (a1.toInt64) (a2.toInt64) (a3.toInt64) → ∀ w', CS g w0 x nA cA lA kn (sMk s a0.toNatClampNeg (a1.toInt64, a1.toInt64, a2.toInt64, a3.toInt64)) w' → Q (.inl (some (.int 1))) w') (hF : okC a0 → ¬ oP (a1.toInt64) (a1.toInt64) (a2.toInt64) (a3.toInt64) → ∀ w', CS g w0 x nA cA lA kn (sRf s) w' → Q (.inl (some (.int (-9)))) w') : WP (MX1_threeSmall g) Q (0, [some (.ref x), some (.int a0), some (.int a1), some (.int a2), some (.int a3)], [], w, 0, 0) := by
  obtain ⟨gc, gl, ⟨hx, hn, hc, hl, hgc, hgl, hn0, hn1, rx, rn, rc, rl, ⟨d1, d2, d3, d4, d5, d6⟩, ⟨d7, d8, d9, d10, d11, d12⟩⟩, hcd, hpl⟩ := hC.1.opn g
  simp only [eX1_threeSmall_0, eX1_threeSmall_4, wt_nil, wt_int, wt_ref, Nat.zero_add]
  with_reducible refine And.intro ?_ ?_
  omega
  with_reducible refine And.intro ?_ ?_
  omega
  with_reducible refine And.intro ?_ ?_
  omega
  with_reducible refine fX1_needCard (a0 := a0) (fun _ => ?_) (fun k0 => ?_)
  simp only [kx_r]
  with_reducible exact hX (fun h => absurd h (by assumption))
  simp only [kx_l, wt_nil, tl_n, Nat.add_zero]
  with_reducible refine And.intro ?_ ?_
  omega
  with_reducible refine And.intro ?_ ?_
  omega
  with_reducible refine And.intro ?_ ?_
  omega
  with_reducible refine fX0_ofThree (fun hno => ?_) (fun hyes q hq => ?_)
  simp only [eX1_threeSmall_16N, rx, kx_l, go_s, wt_nil, tl_s, true_and, Nat.add_zero]
  with_reducible refine And.intro ?_ ?_
  omega
  with_reducible refine And.intro ?_ ?_
  omega
  with_reducible refine And.intro ?_ ?_
  omega
  with_reducible refine fX1_giveN hC (fun w1 g1 g2 => ?_)
  simp only [eX1_threeSmall_19, kx_l, tl_s]
  with_reducible refine And.intro ?_ ?_
  omega
  with_reducible refine And.intro ?_ ?_
  omega
  with_reducible exact hF k0 hno w1 g1
  simp only [eX1_threeSmall_16R, kx_l, wt_nil, tl_s, Nat.add_zero]
  with_reducible refine And.intro ?_ ?_
  with_reducible exact go_5 (hC.ext (ext_up2 ext.rf hq))
  with_reducible refine And.intro ?_ ?_
  omega
  with_reducible refine And.intro ?_ ?_
  omega
  with_reducible refine And.intro ?_ ?_
  omega
  with_reducible refine fX1_giveR (hC.ext (ext_up2 ext.rf hq)) rAt_new k0.1 k0.2 (fun w1 g1 g2 => ?_)
  simp only [eX1_threeSmall_19, kx_l, tl_s]
  with_reducible refine And.intro ?_ ?_
  omega
  with_reducible refine And.intro ?_ ?_
  omega
  with_reducible exact hT k0 hyes w1 g1
set_option maxHeartbeats 4000000 in
theorem fX1_fourSmall {s : AS} {a0 : Int32} {a1 : Int32} {a2 : Int32} {a3 : Int32} {a4 : Int32} (hC : CS g w0 x nA cA lA kn s w) (hX : ¬ (okC a0) → (Q (.inr "java/lang/IndexOutOfBoundsException") w)) (hT : okC a0 → oP (a1.toInt64) (a2.toInt64) (a3.toInt64) (a4.toInt64) → ∀ w', CS g w0 x nA cA lA kn (sMk s a0.toNatClampNeg (a1.toInt64, a2.toInt64, a3.toInt64, a4.toInt64)) w' → Q (.inl (some (.int 1))) w') (hF : okC a0 → ¬ oP (a1.toInt64) (a2.toInt64) (a3.toInt64) (a4.toInt64) → ∀ w', CS g w0 x nA cA lA kn (sRf s) w' → Q (.inl (some (.int (-9)))) w') : WP (MX1_fourSmall g) Q (0, [some (.ref x), some (.int a0), some (.int a1), some (.int a2), some (.int a3), some (.int a4)], [], w, 0, 0) := by
  obtain ⟨gc, gl, ⟨hx, hn, hc, hl, hgc, hgl, hn0, hn1, rx, rn, rc, rl, ⟨d1, d2, d3, d4, d5, d6⟩, ⟨d7, d8, d9, d10, d11, d12⟩⟩, hcd, hpl⟩ := hC.1.opn g
  simp only [eX1_fourSmall_0, eX1_fourSmall_4, wt_nil, wt_int, wt_ref, Nat.zero_add]
  with_reducible refine And.intro ?_ ?_
  omega
  with_reducible refine And.intro ?_ ?_
  omega
  with_reducible refine And.intro ?_ ?_
  omega
  with_reducible refine fX1_needCard (a0 := a0) (fun _ => ?_) (fun k0 => ?_)
  simp only [kx_r]
  with_reducible exact hX (fun h => absurd h (by assumption))
  simp only [kx_l, wt_nil, tl_n, Nat.add_zero]
  with_reducible refine And.intro ?_ ?_
  omega
  with_reducible refine And.intro ?_ ?_
  omega
  with_reducible refine And.intro ?_ ?_
  omega
  with_reducible refine fX0_ofFour (fun hno => ?_) (fun hyes q hq => ?_)
  simp only [eX1_fourSmall_19N, rx, kx_l, go_s, wt_nil, tl_s, true_and, Nat.add_zero]
  with_reducible refine And.intro ?_ ?_
  omega
  with_reducible refine And.intro ?_ ?_
  omega
  with_reducible refine And.intro ?_ ?_
  omega
  with_reducible refine fX1_giveN hC (fun w1 g1 g2 => ?_)
  simp only [eX1_fourSmall_22, kx_l, tl_s]
  with_reducible refine And.intro ?_ ?_
  omega
  with_reducible refine And.intro ?_ ?_
  omega
  with_reducible exact hF k0 hno w1 g1
  simp only [eX1_fourSmall_19R, kx_l, wt_nil, tl_s, Nat.add_zero]
  with_reducible refine And.intro ?_ ?_
  with_reducible exact go_5 (hC.ext (ext_up2 ext.rf hq))
  with_reducible refine And.intro ?_ ?_
  omega
  with_reducible refine And.intro ?_ ?_
  omega
  with_reducible refine And.intro ?_ ?_
  omega
  with_reducible refine fX1_giveR (hC.ext (ext_up2 ext.rf hq)) rAt_new k0.1 k0.2 (fun w1 g1 g2 => ?_)
  simp only [eX1_fourSmall_22, kx_l, tl_s]
  with_reducible refine And.intro ?_ ?_
  omega
  with_reducible refine And.intro ?_ ?_
  omega
  with_reducible exact hT k0 hyes w1 g1
set_option maxHeartbeats 4000000 in
theorem fX1_copyOf {p : Nat} {r : R4} (hp : rAt w p r) (hN : ¬ rOk r → Q (.inl (some .null)) w) (hQ : rOk r → ∀ q, rd g w q = none → Q (.inl (some (.ref q))) (upw w q (.inr (4, [.long r.1, .long r.2.1, .long r.2.2.1, .long r.2.2.2])))) : WP (MX1_copyOf g) Q (0, [some (.ref p)], [], w, 0, 0) := by
  simp only [eX1_copyOf_0, eX1_copyOf_4, eX1_copyOf_8, eX1_copyOf_12]
  with_reducible refine go_F (by assumption) ?_
  simp only [g0, ex1]
  with_reducible refine go_F (by assumption) ?_
  simp only [g0, gS, ex1]
  with_reducible refine go_F (by assumption) ?_
  simp only [g0, gS, ex1]
  with_reducible refine go_F (by assumption) ?_
  simp only [eX1_copyOf_16, wt_nil, g0, gS, ex1, Nat.zero_add]
  with_reducible refine And.intro ?_ ?_
  omega
  with_reducible refine And.intro ?_ ?_
  omega
  with_reducible refine And.intro ?_ ?_
  omega
  with_reducible refine fX0_ofFour (fun hno => ?_) (fun hyes q hq => ?_)
  simp only [eX1_copyOf_19N, kx_l, tl_s]
  with_reducible refine And.intro ?_ ?_
  omega
  with_reducible refine And.intro ?_ ?_
  omega
  with_reducible exact hN hno
  simp only [eX1_copyOf_19, kx_l, tl_s]
  with_reducible refine And.intro ?_ ?_
  omega
  with_reducible refine And.intro ?_ ?_
  omega
  with_reducible exact hQ hyes q hq
set_option maxHeartbeats 4000000 in
theorem fX1_outerOf {p : Nat} {r : R4} (hp : rAt w p r) (hN : ¬ oP r.1 r.1 r.2.2.2 r.2.2.2 → Q (.inl (some .null)) w) (hQ : oP r.1 r.1 r.2.2.2 r.2.2.2 → ∀ q, rd g w q = none → Q (.inl (some (.ref q))) (upw w q (.inr (4, [.long r.1, .long r.1, .long r.2.2.2, .long r.2.2.2])))) : WP (MX1_outerOf g) Q (0, [some (.ref p)], [], w, 0, 0) := by
  simp only [eX1_outerOf_0, eX1_outerOf_4]
  with_reducible refine go_F (by assumption) ?_
  simp only [g0, ex1]
  with_reducible refine go_F (by assumption) ?_
  simp only [eX1_outerOf_8, wt_nil, g0, gS, ex1, Nat.zero_add]
  with_reducible refine And.intro ?_ ?_
  omega
  with_reducible refine And.intro ?_ ?_
  omega
  with_reducible refine And.intro ?_ ?_
  omega
  with_reducible refine fX0_ofTwo (fun hno => ?_) (fun hyes q hq => ?_)
  simp only [eX1_outerOf_11N, kx_l, tl_s]
  with_reducible refine And.intro ?_ ?_
  omega
  with_reducible refine And.intro ?_ ?_
  omega
  with_reducible exact hN hno
  simp only [eX1_outerOf_11, kx_l, tl_s]
  with_reducible refine And.intro ?_ ?_
  omega
  with_reducible refine And.intro ?_ ?_
  omega
  with_reducible exact hQ hyes q hq
set_option maxHeartbeats 4000000 in
theorem fX1_inner {s : AS} {a0 a1 : Int32} (hC : CS g w0 x nA cA lA kn s w) (hX : ¬ (okC a0 ∧ okC a1) → (Q (.inr "java/lang/IndexOutOfBoundsException") w)) (hS : okC a0 → okC a1 → s.2.1 a1.toNatClampNeg = none → (Q (.inr "java/lang/IllegalStateException") w)) (hT : okC a0 → okC a1 → ∀ r, s.2.1 a1.toNatClampNeg = some r → oP r.2.1 r.2.1 r.2.2.1 r.2.2.1 → ∀ w', CS g w0 x nA cA lA kn (sMk s a0.toNatClampNeg (r.2.1, r.2.1, r.2.2.1, r.2.2.1)) w' → Q (.inl (some (.int 1))) w') (hF : okC a0 → okC a1 → ∀ r, s.2.1 a1.toNatClampNeg = some r → ¬ oP r.2.1 r.2.1 r.2.2.1 r.2.2.1 → ∀ w', CS g w0 x nA cA lA kn (sRf s) w' → Q (.inl (some (.int (-9)))) w') : WP (MX1_inner g) Q (0, [some (.ref x), some (.int a0), some (.int a1), none], [], w, 0, 0) := by
  obtain ⟨gc, gl, ⟨hx, hn, hc, hl, hgc, hgl, hn0, hn1, rx, rn, rc, rl, ⟨d1, d2, d3, d4, d5, d6⟩, ⟨d7, d8, d9, d10, d11, d12⟩⟩, hcd, hpl⟩ := hC.1.opn g
  simp only [eX1_inner_0, eX1_inner_4, wt_nil, Nat.zero_add]
  with_reducible refine And.intro ?_ ?_
  omega
  with_reducible refine And.intro ?_ ?_
  omega
  with_reducible refine And.intro ?_ ?_
  omega
  with_reducible refine fX1_needCard (a0 := a0) (fun _ => ?_) (fun k0 => ?_)
  simp only [kx_r]
  with_reducible exact hX (fun h => absurd h.1 (by assumption))
  simp only [rx, kx_l, go_s, wt_nil, tl_n, true_and]
  with_reducible refine And.intro ?_ ?_
  omega
  with_reducible refine And.intro ?_ ?_
  omega
  with_reducible refine And.intro ?_ ?_
  omega
  with_reducible refine fX1_rangeOf hC (fun _ => ?_) (fun k1 e1 => ?_) (fun k1 p r e1 hp => ?_)
  simp only [kx_r]
  with_reducible exact hX (fun h => absurd h.2 (by assumption))
  simp only [kx_r]
  with_reducible exact hS k0 k1 e1
  simp only [eX1_inner_9, eX1_inner_16, kx_l, nl_int, tl_s]
  with_reducible refine go_F hp ?_
  simp only [g0, gS, ex1]
  with_reducible refine go_F hp ?_
  simp only [eX1_inner_20, wt_nil, wt_int, wt_ref, g0, gS, ex1, Nat.add_zero]
  with_reducible refine And.intro ?_ ?_
  omega
  with_reducible refine And.intro ?_ ?_
  omega
  with_reducible refine And.intro ?_ ?_
  omega
  with_reducible refine fX0_ofTwo (fun hno => ?_) (fun hyes q hq => ?_)
  simp only [eX1_inner_23N, rx, kx_l, go_s, wt_nil, tl_s, true_and, Nat.add_zero]
  with_reducible refine And.intro ?_ ?_
  omega
  with_reducible refine And.intro ?_ ?_
  omega
  with_reducible refine And.intro ?_ ?_
  omega
  with_reducible refine fX1_giveN hC (fun w1 g1 g2 => ?_)
  simp only [eX1_inner_26, kx_l, tl_s]
  with_reducible refine And.intro ?_ ?_
  omega
  with_reducible refine And.intro ?_ ?_
  omega
  with_reducible exact hF k0 k1 r e1 hno w1 g1
  simp only [eX1_inner_23R, kx_l, wt_nil, tl_s, Nat.add_zero]
  with_reducible refine And.intro ?_ ?_
  with_reducible exact go_5 (hC.ext (ext_up2 ext.rf hq))
  with_reducible refine And.intro ?_ ?_
  omega
  with_reducible refine And.intro ?_ ?_
  omega
  with_reducible refine And.intro ?_ ?_
  omega
  with_reducible refine fX1_giveR (hC.ext (ext_up2 ext.rf hq)) rAt_new k0.1 k0.2 (fun w1 g1 g2 => ?_)
  simp only [eX1_inner_26, kx_l, tl_s]
  with_reducible refine And.intro ?_ ?_
  omega
  with_reducible refine And.intro ?_ ?_
  omega
  with_reducible exact hT k0 k1 r e1 hyes w1 g1
set_option maxHeartbeats 4000000 in
theorem fX1_shift {s : AS} {a0 a1 : Int32} (hC : CS g w0 x nA cA lA kn s w) (hX : ¬ okC a0 → (Q (.inr "java/lang/IndexOutOfBoundsException") w)) (hS : okC a0 → s.2.1 a0.toNatClampNeg = none → (Q (.inr "java/lang/IllegalStateException") w)) (hT : okC a0 → ∀ r, s.2.1 a0.toNatClampNeg = some r → oP (r.1 + a1.toInt64) (r.2.1 + a1.toInt64) (r.2.2.1 + a1.toInt64) (r.2.2.2 + a1.toInt64) → ∀ w', CS g w0 x nA cA lA kn (sMk s a0.toNatClampNeg (r.1 + a1.toInt64, r.2.1 + a1.toInt64, r.2.2.1 + a1.toInt64, r.2.2.2 + a1.toInt64)) w' → Q (.inl (some (.int 1))) w') (hF : okC a0 → ∀ r, s.2.1 a0.toNatClampNeg = some r → ¬ oP (r.1 + a1.toInt64) (r.2.1 + a1.toInt64) (r.2.2.1 + a1.toInt64) (r.2.2.2 + a1.toInt64) → ∀ w', CS g w0 x nA cA lA kn (sRf s) w' → Q (.inl (some (.int (-9)))) w') : WP (MX1_shift g) Q (0, [some (.ref x), some (.int a0), some (.int a1), none], [], w, 0, 0) := by
  obtain ⟨gc, gl, ⟨hx, hn, hc, hl, hgc, hgl, hn0, hn1, rx, rn, rc, rl, ⟨d1, d2, d3, d4, d5, d6⟩, ⟨d7, d8, d9, d10, d11, d12⟩⟩, hcd, hpl⟩ := hC.1.opn g
  simp only [eX1_shift_0, rx, go_s, wt_nil, true_and, Nat.zero_add]
  with_reducible refine And.intro ?_ ?_
  omega
  with_reducible refine And.intro ?_ ?_
  omega
  with_reducible refine And.intro ?_ ?_
  omega
  with_reducible refine fX1_rangeOf hC (fun _ => ?_) (fun k0 e1 => ?_) (fun k0 p r e1 hp => ?_)
  simp only [kx_r]
  with_reducible exact hX (by assumption)
  simp only [kx_r]
  with_reducible exact hS k0 e1
  simp only [eX1_shift_5, eX1_shift_12, kx_l, nl_int, tl_s]
  with_reducible refine go_F hp ?_
  simp only [eX1_shift_14, eX1_shift_19, g0, ex1]
  with_reducible refine go_F hp ?_
  simp only [eX1_shift_21, eX1_shift_26, g0, gS, ex1]
  with_reducible refine go_F hp ?_
  simp only [eX1_shift_28, eX1_shift_33, g0, gS, ex1]
  with_reducible refine go_F hp ?_
  simp only [eX1_shift_35, wt_nil, wt_int, wt_ref, g0, gS, ex1, Nat.add_zero]
  with_reducible refine And.intro ?_ ?_
  omega
  with_reducible refine And.intro ?_ ?_
  omega
  with_reducible refine And.intro ?_ ?_
  omega
  with_reducible refine fX0_ofFour (fun hno => ?_) (fun hyes q hq => ?_)
  simp only [eX1_shift_39N, rx, kx_l, go_s, wt_nil, tl_s, true_and, Nat.add_zero]
  with_reducible refine And.intro ?_ ?_
  omega
  with_reducible refine And.intro ?_ ?_
  omega
  with_reducible refine And.intro ?_ ?_
  omega
  with_reducible refine fX1_giveN hC (fun w1 g1 g2 => ?_)
  simp only [eX1_shift_42, kx_l, tl_s]
  with_reducible refine And.intro ?_ ?_
  omega
  with_reducible refine And.intro ?_ ?_
  omega
  with_reducible exact hF k0 r e1 hno w1 g1
  simp only [eX1_shift_39R, kx_l, wt_nil, tl_s, Nat.add_zero]
  with_reducible refine And.intro ?_ ?_
  with_reducible exact go_5 (hC.ext (ext_up2 ext.rf hq))
  with_reducible refine And.intro ?_ ?_
  omega
  with_reducible refine And.intro ?_ ?_
  omega
  with_reducible refine And.intro ?_ ?_
  omega
  with_reducible refine fX1_giveR (hC.ext (ext_up2 ext.rf hq)) rAt_new k0.1 k0.2 (fun w1 g1 g2 => ?_)
  simp only [eX1_shift_42, kx_l, tl_s]
  with_reducible refine And.intro ?_ ?_
  omega
  with_reducible refine And.intro ?_ ?_
  omega
  with_reducible exact hT k0 r e1 hyes w1 g1
set_option maxHeartbeats 4000000 in
theorem fX1_span {s : AS} {a0 a1 a2 : Int32} (hC : CS g w0 x nA cA lA kn s w) (hX : ¬ (okC a0 ∧ okC a1 ∧ okC a2) → (Q (.inr "java/lang/IndexOutOfBoundsException") w)) (hS : okC a0 → okC a1 → okC a2 → (s.2.1 a1.toNatClampNeg = none ∨ s.2.1 a2.toNatClampNeg = none) → (Q (.inr "java/lang/IllegalStateException") w)) (hT : okC a0 → okC a1 → okC a2 → ∀ r q, s.2.1 a1.toNatClampNeg = some r → s.2.1 a2.toNatClampNeg = some q → oP r.1 r.2.1 q.2.2.1 q.2.2.2 → ∀ w', CS g w0 x nA cA lA kn (sMk s a0.toNatClampNeg (r.1, r.2.1, q.2.2.1, q.2.2.2)) w' → Q (.inl (some (.int 1))) w') (hF : okC a0 → okC a1 → okC a2 → ∀ r q, s.2.1 a1.toNatClampNeg = some r → s.2.1 a2.toNatClampNeg = some q → ¬ oP r.1 r.2.1 q.2.2.1 q.2.2.2 → ∀ w', CS g w0 x nA cA lA kn (sRf s) w' → Q (.inl (some (.int (-9)))) w') : WP (MX1_span g) Q (0, [some (.ref x), some (.int a0), some (.int a1), some (.int a2), none, none], [], w, 0, 0) := by
  obtain ⟨gc, gl, ⟨hx, hn, hc, hl, hgc, hgl, hn0, hn1, rx, rn, rc, rl, ⟨d1, d2, d3, d4, d5, d6⟩, ⟨d7, d8, d9, d10, d11, d12⟩⟩, hcd, hpl⟩ := hC.1.opn g
  simp only [eX1_span_0, eX1_span_4, eX1_span_8, eX1_span_12, wt_nil, Nat.zero_add]
  with_reducible refine And.intro ?_ ?_
  omega
  with_reducible refine And.intro ?_ ?_
  omega
  with_reducible refine And.intro ?_ ?_
  omega
  with_reducible refine fX1_needCard (a0 := a0) (fun _ => ?_) (fun k0 => ?_)
  simp only [kx_r]
  with_reducible exact hX (fun h => absurd h.1 (by assumption))
  simp only [kx_l, wt_nil, tl_n]
  with_reducible refine And.intro ?_ ?_
  omega
  with_reducible refine And.intro ?_ ?_
  omega
  with_reducible refine And.intro ?_ ?_
  omega
  with_reducible refine fX1_needCard (a0 := a1) (fun _ => ?_) (fun k1 => ?_)
  simp only [kx_r]
  with_reducible exact hX (fun h => absurd h.2.1 (by assumption))
  simp only [kx_l, wt_nil, tl_n]
  with_reducible refine And.intro ?_ ?_
  omega
  with_reducible refine And.intro ?_ ?_
  omega
  with_reducible refine And.intro ?_ ?_
  omega
  with_reducible refine fX1_needCard (a0 := a2) (fun _ => ?_) (fun k2 => ?_)
  simp only [kx_r]
  with_reducible exact hX (fun h => absurd h.2.2 (by assumption))
  simp only [rx, kx_l, go_s, wt_nil, tl_n, true_and]
  with_reducible refine And.intro ?_ ?_
  omega
  with_reducible refine And.intro ?_ ?_
  omega
  with_reducible refine And.intro ?_ ?_
  omega
  with_reducible refine fX1_rangeOf (a0 := a1) hC (fun _ => ?_) (fun _ e1 => ?_) (fun _ p r e1 hp => ?_)
  simp only [kx_r]
  with_reducible exact hX (fun h => absurd h.2.1 (by assumption))
  simp only [kx_r]
  with_reducible exact hS k0 k1 k2 (Or.inl e1)
  simp only [eX1_span_17, eX1_span_20, rx, kx_l, go_s, wt_nil, nl_int, tl_s, true_and]
  with_reducible refine And.intro ?_ ?_
  omega
  with_reducible refine And.intro ?_ ?_
  omega
  with_reducible refine And.intro ?_ ?_
  omega
  with_reducible refine fX1_rangeOf (a0 := a2) hC (fun _ => ?_) (fun _ e2 => ?_) (fun _ p2 r2 e2 hp2 => ?_)
  simp only [kx_r]
  with_reducible exact hX (fun h => absurd h.2.2 (by assumption))
  simp only [kx_r]
  with_reducible exact hS k0 k1 k2 (Or.inr e2)
  simp only [eX1_span_24, eX1_span_28, eX1_span_33, eX1_span_38, eX1_span_43, kx_l, nl_ref, tl_s]
  with_reducible refine go_F hp ?_
  simp only [g0, ex1]
  with_reducible refine go_F hp ?_
  simp only [g0, gS, ex1]
  with_reducible refine go_F hp2 ?_
  simp only [g0, gS, ex1]
  with_reducible refine go_F hp2 ?_
  simp only [eX1_span_48, wt_nil, wt_int, wt_ref, g0, gS, ex1, Nat.add_zero]
  with_reducible refine And.intro ?_ ?_
  omega
  with_reducible refine And.intro ?_ ?_
  omega
  with_reducible refine And.intro ?_ ?_
  omega
  with_reducible refine fX0_ofFour (fun hno => ?_) (fun hyes q hq => ?_)
  simp only [eX1_span_51N, rx, kx_l, go_s, wt_nil, tl_s, true_and, Nat.add_zero]
  with_reducible refine And.intro ?_ ?_
  omega
  with_reducible refine And.intro ?_ ?_
  omega
  with_reducible refine And.intro ?_ ?_
  omega
  with_reducible refine fX1_giveN hC (fun w1 g1 g2 => ?_)
  simp only [eX1_span_54, kx_l, tl_s]
  with_reducible refine And.intro ?_ ?_
  omega
  with_reducible refine And.intro ?_ ?_
  omega
  with_reducible exact hF k0 k1 k2 r r2 e1 e2 hno w1 g1
  simp only [eX1_span_51R, kx_l, wt_nil, tl_s, Nat.add_zero]
  with_reducible refine And.intro ?_ ?_
  with_reducible exact go_5 (hC.ext (ext_up2 ext.rf hq))
  with_reducible refine And.intro ?_ ?_
  omega
  with_reducible refine And.intro ?_ ?_
  omega
  with_reducible refine And.intro ?_ ?_
  omega
  with_reducible refine fX1_giveR (hC.ext (ext_up2 ext.rf hq)) rAt_new k0.1 k0.2 (fun w1 g1 g2 => ?_)
  simp only [eX1_span_54, kx_l, tl_s]
  with_reducible refine And.intro ?_ ?_
  omega
  with_reducible refine And.intro ?_ ?_
  omega
  with_reducible exact hT k0 k1 k2 r r2 e1 e2 hyes w1 g1
end
end
/-! 71.fn5.lean.txt -/
section
section
variable {g : RO} {Q : Ot → Hw → Prop} {w0 w : Hw} {x nA cA lA : Nat} {kn : Int32}
def fsum (f : Nat → Int32) : Nat → Int32
  | 0 => 0
  | n + 1 => fsum f n + f n
theorem bI01 (b : Bool) : bI b = 0 ∨ bI b = 1 := by cases b <;> first | exact Or.inl rfl | exact Or.inr rfl
theorem oN1 {j : Nat} : Int32.ofNat j + 1 = Int32.ofNat (j + 1) := (nI_succ j).symm
theorem oNt {j : Nat} (h : j < 1000) : (Int32.ofNat j).toInt = (j : Int) := nI_toInt (by omega)
theorem oNc {j : Nat} (h : j < 1000) : (Int32.ofNat j).toNatClampNeg = j := nI_clamp (by omega)
theorem oN0 {j : Nat} (h : j < 1000) : ¬ Int32.ofNat j < 0 := i32_of_nlt (by
  rw [oNt h]
  show (0 : Int) ≤ (j : Int)
  omega)
theorem oNl {j : Nat} {b : Int32} {B : Nat} (h : j < 1000) (e : b.toInt = (B : Int)) (k : j < B) : Int32.ofNat j < b := i32_of_lt (by rw [oNt h, e]; omega)
theorem oNg {j : Nat} {b : Int32} {B : Nat} (h : j < 1000) (e : b.toInt = (B : Int)) (k : B ≤ j) : ¬ Int32.ofNat j < b := i32_of_nlt (by rw [oNt h, e]; omega)
theorem vX0_holds {p : Nat} {r : R4} {a0 : Int64} (hp : rAt w p r) (hQ : Q (.inl (some (.int (bI (decide (hP r a0)))))) w) : WP (MX0_holds g) Q (0, [some (.ref p), some (.long a0), none], [], w, 0, 0) := fX0_holds hp (fun h => by rw [decide_eq_true h] at hQ; exact hQ) (fun h => by rw [decide_eq_false h] at hQ; exact hQ)
theorem vX0_holdsAsSmall {p : Nat} {r : R4} {a0 : Int64} (hp : rAt w p r) (hQ : Q (.inl (some (.int (bI (decide (sP r ∧ hP r a0)))))) w) : WP (MX0_holdsAsSmall g) Q (0, [some (.ref p), some (.long a0), none], [], w, 0, 0) := fX0_holdsAsSmall hp (fun h => by rw [decide_eq_true h] at hQ; exact hQ) (fun h => by rw [decide_eq_false h] at hQ; exact hQ)
theorem vX0_holdsAs {p : Nat} {r : R4} {a0 : Int64} {a1 : Int32} (hp : rAt w p r) (hQ : Q (.inl (some (.int (bI (decide ((a1 = 0 ∨ sP r) ∧ hP r a0)))))) w) : WP (MX0_holdsAs g) Q (0, [some (.ref p), some (.long a0), none, some (.int a1)], [], w, 0, 0) := fX0_holdsAs hp (fun h => by rw [decide_eq_true h] at hQ; exact hQ) (fun h => by rw [decide_eq_false h] at hQ; exact hQ)
theorem vX1_isSmallNumber {a0 : Int64} (hQ : Q (.inl (some (.int (bI (decide (-2147483648 ≤ a0.toInt ∧ a0.toInt ≤ 2147483647)))))) w) : WP (MX1_isSmallNumber g) Q (0, [some (.long a0), none], [], w, 0, 0) := fX1_isSmallNumber (fun h => by rw [decide_eq_true h] at hQ; exact hQ) (fun h => by rw [decide_eq_false h] at hQ; exact hQ)
/-- how many ends are small numbers -/
def seV (r : R4) : Int32 := fsum (fun j => bI (decide (-2147483648 ≤ (eV r (Int32.ofNat j)).toInt ∧ (eV r (Int32.ofNat j)).toInt ≤ 2147483647))) 4
set_option maxHeartbeats 4000000 in
theorem flX1_smallEnds_4 {p : Nat} {r : R4} (hp : rAt w p r) (hQ : Q (.inl (some (.int (seV r)))) w) : ∀ (d j : Nat)  (k m : Nat), j + d = 4 → k ≤ 0 → m ≤ 0 → WP (MX1_smallEnds g) Q (4, [some (.ref p), some (.int (fsum (fun j => bI (decide (-2147483648 ≤ (eV r (Int32.ofNat j)).toInt ∧ (eV r (Int32.ofNat j)).toInt ≤ 2147483647))) j)), some (.int (Int32.ofNat j))], [], w, k, m) := by
  intro d
  induction d with
  | zero =>
    intro j  k m hjd hk hm
    have h9 : j < 1000 := (by omega)
    have hlt : ¬ Int32.ofNat j < 4 := oNg (B := 4) h9 rfl (by omega)
    have hnn := oN0 h9
    have hcl := oNc h9
    obtain rfl : j = 4 := by omega
    rw [eX1_smallEnds_4]
    simp only [eX1_smallEnds_5, eX1_smallEnds_9, eX1_smallEnds_29, if_false, hlt, ite_le, wt_nil, wt_int, Nat.add_zero]
    with_reducible refine And.intro ?_ ?_
    with_reducible assumption
    with_reducible refine And.intro ?_ ?_
    with_reducible assumption
    ((with_reducible refine isQ (Q := Q) ?_); exact hQ)
  | succ d ih =>
    intro j  k m hjd hk hm
    have h9 : j < 1000 := (by omega)
    have hlt : Int32.ofNat j < 4 := oNl (B := 4) h9 rfl (by omega)
    have hnn := oN0 h9
    have hcl := oNc h9
    rw [eX1_smallEnds_4]
    simp only [eX1_smallEnds_5, eX1_smallEnds_9, eX1_smallEnds_29, if_true, hlt, ite_le, wt_nil, wt_int, Nat.add_zero]
    with_reducible refine And.intro ?_ ?_
    with_reducible exact go_F hp trivial
    with_reducible refine And.intro ?_ ?_
    omega
    with_reducible refine And.intro ?_ ?_
    with_reducible assumption
    with_reducible refine And.intro ?_ ?_
    with_reducible assumption
    with_reducible refine fX0_endAt hp ?_
    simp only [eX1_smallEnds_15, kx_l, wt_nil, wt_int, tl_s, Nat.add_zero]
    with_reducible refine And.intro ?_ ?_
    omega
    with_reducible refine And.intro ?_ ?_
    with_reducible assumption
    with_reducible refine And.intro ?_ ?_
    with_reducible assumption
    with_reducible refine vX1_isSmallNumber ?_
    simp only [eX1_smallEnds_18, kx_l, wt_nil, wt_int, tl_s, Nat.add_zero]
    with_reducible refine And.intro ?_ ?_
    omega
    with_reducible refine And.intro ?_ ?_
    with_reducible assumption
    with_reducible refine And.intro ?_ ?_
    with_reducible assumption
    with_reducible refine fX1_asNumber (bI01 _) ?_
    simp only [eX1_smallEnds_21, kx_l, nl_int, nl_ref, tl_s]
    (rw [oN1]; exact ih (j + 1)  _ _ (by omega) (by first | assumption | omega) (by first | assumption | omega))
set_option maxHeartbeats 4000000 in
theorem fX1_smallEnds {p : Nat} {r : R4} (hp : rAt w p r) (hQ : Q (.inl (some (.int (seV r)))) w) : WP (MX1_smallEnds g) Q (0, [some (.ref p), none, none], [], w, 0, 0) := by
  simp only [eX1_smallEnds_0, nl_int, nl_ref]
  ((with_reducible refine isWP (pc := 4) ?_); exact flX1_smallEnds_4 hp hQ 4 0 _ _ rfl (by decide) (by decide))
end
end
/-! 71.fn6.lean.txt -/
section
section
variable {g : RO} {Q : Ot → Hw → Prop} {w0 w : Hw} {x nA cA lA : Nat} {kn : Int32}
theorem sOk.c {s : AS} {a : Int32} {r : R4} (h : sOk s) (k : okC a) (e : s.2.1 a.toNatClampNeg = some r) : rOk r := h.1 _ _ (c6 k) e
theorem oOut {r : R4} (h : rOk r) : oP r.1 r.1 r.2.2.2 r.2.2.2 := by
  obtain ⟨h1, h2, h3, h4⟩ := h
  exact ⟨Int.le_refl _, Int.le_refl _, by omega, by omega⟩
theorem mOut {r : R4} (h : mP r (r.1, r.1, r.2.2.2, r.2.2.2)) : fP r := ⟨h.2.1.symm, h.2.2.1⟩
theorem mOutN {r : R4} (h : ¬ mP r (r.1, r.1, r.2.2.2, r.2.2.2)) : ¬ fP r := fun k => h ⟨rfl, k.1.symm, k.2, rfl⟩
set_option maxHeartbeats 4000000 in
theorem fX1_again {s : AS} {a0 a1 : Int32} (hC : CS g w0 x nA cA lA kn s w) (ho : sOk s) (hX : ¬ (okC a0 ∧ okC a1) → (Q (.inr "java/lang/IndexOutOfBoundsException") w)) (hS : okC a0 → okC a1 → s.2.1 a1.toNatClampNeg = none → (Q (.inr "java/lang/IllegalStateException") w)) (hQ : okC a0 → okC a1 → ∀ r, s.2.1 a1.toNatClampNeg = some r → ∀ w', CS g w0 x nA cA lA kn (sMk s a0.toNatClampNeg r) w' → Q (.inl (some (.int (seV r)))) w') : WP (MX1_again g) Q (0, [some (.ref x), some (.int a0), some (.int a1), none], [], w, 0, 0) := by
  obtain ⟨gc, gl, ⟨hx, hn, hc, hl, hgc, hgl, hn0, hn1, rx, rn, rc, rl, ⟨d1, d2, d3, d4, d5, d6⟩, ⟨d7, d8, d9, d10, d11, d12⟩⟩, hcd, hpl⟩ := hC.1.opn g
  simp only [eX1_again_0, eX1_again_4, wt_nil, Nat.zero_add]
  with_reducible refine And.intro ?_ ?_
  omega
  with_reducible refine And.intro ?_ ?_
  omega
  with_reducible refine And.intro ?_ ?_
  omega
  with_reducible refine fX1_needCard (a0 := a0) (fun _ => ?_) (fun k0 => ?_)
  simp only [kx_r]
  with_reducible exact hX (fun h => absurd h.1 (by assumption))
  simp only [rx, kx_l, go_s, wt_nil, tl_n, true_and]
  with_reducible refine And.intro ?_ ?_
  omega
  with_reducible refine And.intro ?_ ?_
  omega
  with_reducible refine And.intro ?_ ?_
  omega
  with_reducible refine fX1_rangeOf (a0 := a1) hC (fun _ => ?_) (fun k1 e1 => ?_) (fun k1 p r e1 hp => ?_)
  simp only [kx_r]
  with_reducible exact hX (fun h => absurd h.2 (by assumption))
  simp only [kx_r]
  with_reducible exact hS k0 k1 e1
  simp only [eX1_again_9, kx_l, wt_nil, wt_int, wt_ref, nl_int, tl_s, Nat.add_zero]
  with_reducible refine And.intro ?_ ?_
  omega
  with_reducible refine And.intro ?_ ?_
  omega
  with_reducible refine And.intro ?_ ?_
  omega
  with_reducible refine fX1_copyOf hp (fun hno => ?_) (fun hyes q hq => ?_)
  with_reducible exact absurd (ho.c k1 e1) hno
  simp only [eX1_again_16R, kx_l, wt_nil, tl_s, Nat.add_zero]
  with_reducible refine And.intro ?_ ?_
  with_reducible exact go_5 (hC.ext (ext_up2 ext.rf hq))
  with_reducible refine And.intro ?_ ?_
  omega
  with_reducible refine And.intro ?_ ?_
  omega
  with_reducible refine And.intro ?_ ?_
  omega
  with_reducible refine fX1_giveR (hC.ext (ext_up2 ext.rf hq)) rAt_new k0.1 k0.2 (fun w1 g1 g2 => ?_)
  simp only [eX1_again_19, kx_l, wt_nil, tl_s, Nat.add_zero]
  with_reducible refine And.intro ?_ ?_
  omega
  with_reducible refine And.intro ?_ ?_
  omega
  with_reducible refine And.intro ?_ ?_
  omega
  with_reducible refine fX1_smallEnds (g2 _ _ (hp.ext (ext_up2 ext.rf hq))) ?_
  simp only [eX1_again_24, kx_l, tl_s]
  with_reducible refine And.intro ?_ ?_
  omega
  with_reducible refine And.intro ?_ ?_
  omega
  ((with_reducible refine isQ (Q := Q) ?_); exact hQ k0 k1 r e1 w1 g1)
set_option maxHeartbeats 4000000 in
theorem fX1_outer {s : AS} {a0 a1 : Int32} (hC : CS g w0 x nA cA lA kn s w) (ho : sOk s) (hX : ¬ (okC a0 ∧ okC a1) → (Q (.inr "java/lang/IndexOutOfBoundsException") w)) (hS : okC a0 → okC a1 → s.2.1 a1.toNatClampNeg = none → (Q (.inr "java/lang/IllegalStateException") w)) (hT : okC a0 → okC a1 → ∀ r, s.2.1 a1.toNatClampNeg = some r → fP r → ∀ w', CS g w0 x nA cA lA kn (sMk s a0.toNatClampNeg (r.1, r.1, r.2.2.2, r.2.2.2)) w' → Q (.inl (some (.int 1))) w') (hF : okC a0 → okC a1 → ∀ r, s.2.1 a1.toNatClampNeg = some r → ¬ fP r → ∀ w', CS g w0 x nA cA lA kn (sMk s a0.toNatClampNeg (r.1, r.1, r.2.2.2, r.2.2.2)) w' → Q (.inl (some (.int 0))) w') : WP (MX1_outer g) Q (0, [some (.ref x), some (.int a0), some (.int a1), none, none], [], w, 0, 0) := by
  obtain ⟨gc, gl, ⟨hx, hn, hc, hl, hgc, hgl, hn0, hn1, rx, rn, rc, rl, ⟨d1, d2, d3, d4, d5, d6⟩, ⟨d7, d8, d9, d10, d11, d12⟩⟩, hcd, hpl⟩ := hC.1.opn g
  simp only [eX1_outer_0, eX1_outer_4, wt_nil, Nat.zero_add]
  with_reducible refine And.intro ?_ ?_
  omega
  with_reducible refine And.intro ?_ ?_
  omega
  with_reducible refine And.intro ?_ ?_
  omega
  with_reducible refine fX1_needCard (a0 := a0) (fun _ => ?_) (fun k0 => ?_)
  simp only [kx_r]
  with_reducible exact hX (fun h => absurd h.1 (by assumption))
  simp only [rx, kx_l, go_s, wt_nil, tl_n, true_and]
  with_reducible refine And.intro ?_ ?_
  omega
  with_reducible refine And.intro ?_ ?_
  omega
  with_reducible refine And.intro ?_ ?_
  omega
  with_reducible refine fX1_rangeOf (a0 := a1) hC (fun _ => ?_) (fun k1 e1 => ?_) (fun k1 p r e1 hp => ?_)
  simp only [kx_r]
  with_reducible exact hX (fun h => absurd h.2 (by assumption))
  simp only [kx_r]
  with_reducible exact hS k0 k1 e1
  simp only [eX1_outer_9, kx_l, wt_nil, nl_int, tl_s]
  with_reducible refine And.intro ?_ ?_
  omega
  with_reducible refine And.intro ?_ ?_
  omega
  with_reducible refine And.intro ?_ ?_
  omega
  with_reducible refine fX1_outerOf hp (fun hno => ?_) (fun hyes q hq => ?_)
  with_reducible exact absurd (oOut (ho.c k1 e1)) hno
  simp only [eX1_outer_14, kx_l, wt_nil, nl_ref, tl_s, Nat.add_zero]
  with_reducible refine And.intro ?_ ?_
  with_reducible exact go_5 (hC.ext (ext_up2 ext.rf hq))
  with_reducible refine And.intro ?_ ?_
  omega
  with_reducible refine And.intro ?_ ?_
  omega
  with_reducible refine And.intro ?_ ?_
  omega
  with_reducible refine fX1_giveR (hC.ext (ext_up2 ext.rf hq)) rAt_new k0.1 k0.2 (fun w1 g1 g2 => ?_)
  simp only [eX1_outer_23, kx_l, wt_nil, tl_s, Nat.add_zero]
  with_reducible refine And.intro ?_ ?_
  with_reducible exact go_F (g2 _ _ (hp.ext (ext_up2 ext.rf hq))) trivial
  with_reducible refine And.intro ?_ ?_
  omega
  with_reducible refine And.intro ?_ ?_
  omega
  with_reducible refine And.intro ?_ ?_
  omega
  with_reducible refine fX0_matchesR (g2 _ _ (hp.ext (ext_up2 ext.rf hq))) (g2 _ _ rAt_new) (fun hm => ?_) (fun hm => ?_)
  simp only [eX1_outer_30, eX1_outer_33, eX1_outer_37, eX1_outer_38, i10, if_false, kx_l, tl_s]
  with_reducible refine And.intro ?_ ?_
  omega
  with_reducible refine And.intro ?_ ?_
  omega
  with_reducible exact hT k0 k1 r e1 (mOut hm) w1 g1
  simp only [eX1_outer_30, eX1_outer_33, eX1_outer_37, eX1_outer_38, if_true, kx_l, tl_s]
  with_reducible refine And.intro ?_ ?_
  omega
  with_reducible refine And.intro ?_ ?_
  omega
  with_reducible exact hF k0 k1 r e1 (mOutN hm) w1 g1
set_option maxHeartbeats 4000000 in
theorem fX1_same {s : AS} {a0 a1 : Int32} (hC : CS g w0 x nA cA lA kn s w) (hX : ¬ (okC a0 ∧ okC a1) → (Q (.inr "java/lang/IndexOutOfBoundsException") w)) (hS : okC a0 → okC a1 → s.2.1 a1.toNatClampNeg = none → (Q (.inr "java/lang/IllegalStateException") w)) (hN : okC a0 → okC a1 → ∀ r, s.2.1 a1.toNatClampNeg = some r → s.2.1 a0.toNatClampNeg = none → ∀ w', CS g w0 x nA cA lA kn (sC s (va_up s.2.1 a0.toNatClampNeg (some r))) w' → Q (.inl (some (.int (-1)))) w') (hT : okC a0 → okC a1 → ∀ r, s.2.1 a1.toNatClampNeg = some r → ∀ q, s.2.1 a0.toNatClampNeg = some q → mP q r → ∀ w', CS g w0 x nA cA lA kn (sC s (va_up s.2.1 a0.toNatClampNeg (some r))) w' → Q (.inl (some (.int 1))) w') (hF : okC a0 → okC a1 → ∀ r, s.2.1 a1.toNatClampNeg = some r → ∀ q, s.2.1 a0.toNatClampNeg = some q → ¬ mP q r → ∀ w', CS g w0 x nA cA lA kn (sC s (va_up s.2.1 a0.toNatClampNeg (some r))) w' → Q (.inl (some (.int 0))) w') : WP (MX1_same g) Q (0, [some (.ref x), some (.int a0), some (.int a1), none, none], [], w, 0, 0) := by
  obtain ⟨gc, gl, ⟨hx, hn, hc, hl, hgc, hgl, hn0, hn1, rx, rn, rc, rl, ⟨d1, d2, d3, d4, d5, d6⟩, ⟨d7, d8, d9, d10, d11, d12⟩⟩, hcd, hpl⟩ := hC.1.opn g
  simp only [eX1_same_0, eX1_same_4, wt_nil, Nat.zero_add]
  with_reducible refine And.intro ?_ ?_
  omega
  with_reducible refine And.intro ?_ ?_
  omega
  with_reducible refine And.intro ?_ ?_
  omega
  with_reducible refine fX1_needCard (a0 := a0) (fun _ => ?_) (fun k0 => ?_)
  simp only [kx_r]
  with_reducible exact hX (fun h => absurd h.1 (by assumption))
  simp only [rx, kx_l, go_s, wt_nil, tl_n, true_and]
  with_reducible refine And.intro ?_ ?_
  omega
  with_reducible refine And.intro ?_ ?_
  omega
  with_reducible refine And.intro ?_ ?_
  omega
  with_reducible refine fX1_rangeOf (a0 := a1) hC (fun _ => ?_) (fun k1 e1 => ?_) (fun k1 p r e1 hp => ?_)
  simp only [kx_r]
  with_reducible exact hX (fun h => absurd h.2 (by assumption))
  simp only [kx_r]
  with_reducible exact hS k0 k1 e1
  simp only [eX1_same_9, eX1_same_14, eX1_same_16, eX1_same_16N, eX1_same_18, eX1_same_22, eX1_same_25, eX1_same_25N, eX1_same_27R, eX1_same_27N, eX1_same_30, eX1_same_32, rx, rc, hc, n45, or_false, false_and, kx_l, go_s, gq_s, wt_nil, nl_int, nl_ref, rf_st, tl_s, g0, gS, ex1, true_and, Nat.add_zero]
  with_reducible refine And.intro ?_ ?_
  with_reducible exact vpi6 k0.1 k0.2
  with_reducible refine And.intro ?_ ?_
  with_reducible intro _
  with_reducible refine And.intro ?_ ?_
  with_reducible exact vpi6 k0.1 k0.2
  with_reducible refine And.intro ?_ ?_
  with_reducible exact go_Fw hp trivial
  with_reducible refine And.intro ?_ ?_
  omega
  with_reducible refine And.intro ?_ ?_
  omega
  ((with_reducible refine isQ (Q := Q) ?_); exact hN k0 k1 r e1 (cdN hcd k0 (by assumption)) _ (hC.card gc hc a0.toNatClampNeg (some p) (some r) hp))
  with_reducible intro _
  with_reducible intro _
  with_reducible refine And.intro ?_ ?_
  with_reducible exact vpi6 k0.1 k0.2
  with_reducible refine And.intro ?_ ?_
  with_reducible exact go_Fw hp trivial
  with_reducible refine And.intro ?_ ?_
  (obtain ⟨q0, e0, hq0⟩ := cdS hcd k0 (by assumption); with_reducible exact go_F (rAt_up2 hq0 hc (by simp)) trivial)
  with_reducible refine And.intro ?_ ?_
  omega
  with_reducible refine And.intro ?_ ?_
  omega
  with_reducible refine And.intro ?_ ?_
  omega
  (obtain ⟨q0, e0, hq0⟩ := cdS hcd k0 (by assumption); with_reducible refine fX0_matchesR (rAt_up2 hq0 hc (by simp)) (rAt_up2 hp hc (by simp)) (fun hm => ?_) (fun hm => ?_))
  simp only [eX1_same_38, eX1_same_41, eX1_same_45, eX1_same_46, i10, if_false, kx_l, tl_s]
  with_reducible refine And.intro ?_ ?_
  omega
  with_reducible refine And.intro ?_ ?_
  omega
  ((with_reducible refine isQ (Q := Q) ?_); exact hT k0 k1 r e1 q0 e0 hm _ (hC.card gc hc a0.toNatClampNeg (some p) (some r) hp))
  simp only [eX1_same_38, eX1_same_41, eX1_same_45, eX1_same_46, if_true, kx_l, tl_s]
  with_reducible refine And.intro ?_ ?_
  omega
  with_reducible refine And.intro ?_ ?_
  omega
  ((with_reducible refine isQ (Q := Q) ?_); exact hF k0 k1 r e1 q0 e0 hm _ (hC.card gc hc a0.toNatClampNeg (some p) (some r) hp))
set_option maxHeartbeats 4000000 in
theorem fX1_drop {s : AS} {a0 : Int32} (hC : CS g w0 x nA cA lA kn s w) (hX : ¬ okC a0 → (Q (.inr "java/lang/IndexOutOfBoundsException") w)) (hN : okC a0 → s.2.1 a0.toNatClampNeg = none → ∀ w', CS g w0 x nA cA lA kn (sC s (va_up s.2.1 a0.toNatClampNeg none)) w' → Q (.inl (some (.int 0))) w') (hS : okC a0 → ∀ r, s.2.1 a0.toNatClampNeg = some r → ∀ w', CS g w0 x nA cA lA kn (sC s (va_up s.2.1 a0.toNatClampNeg none)) w' → Q (.inl (some (.int 1))) w') : WP (MX1_drop g) Q (0, [some (.ref x), some (.int a0), none], [], w, 0, 0) := by
  obtain ⟨gc, gl, ⟨hx, hn, hc, hl, hgc, hgl, hn0, hn1, rx, rn, rc, rl, ⟨d1, d2, d3, d4, d5, d6⟩, ⟨d7, d8, d9, d10, d11, d12⟩⟩, hcd, hpl⟩ := hC.1.opn g
  simp only [eX1_drop_0, eX1_drop_4, eX1_drop_8, wt_nil, Nat.zero_add]
  with_reducible refine And.intro ?_ ?_
  omega
  with_reducible refine And.intro ?_ ?_
  omega
  with_reducible refine And.intro ?_ ?_
  omega
  with_reducible refine fX1_needCard (a0 := a0) (fun _ => ?_) (fun k0 => ?_)
  simp only [kx_r]
  with_reducible exact hX (by assumption)
  simp only [eX1_drop_9, eX1_drop_10R, eX1_drop_10N, eX1_drop_13, eX1_drop_17, eX1_drop_18, rx, rc, n45, or_false, kx_l, go_s, gq_s, wt_nil, rf_st, tl_n, g0, gS, ex1, true_and, Nat.add_zero]
  with_reducible refine And.intro ?_ ?_
  with_reducible exact vpi6 k0.1 k0.2
  with_reducible refine And.intro ?_ ?_
  with_reducible intro _
  with_reducible refine And.intro ?_ ?_
  omega
  with_reducible refine And.intro ?_ ?_
  omega
  with_reducible refine And.intro ?_ ?_
  omega
  with_reducible refine fX1_asNumber (Or.inl rfl) ?_
  simp only [eX1_drop_21, eX1_drop_26, eX1_drop_29, rx, hc, n45, or_false, kx_l, go_s, gq_s, nl_int, tl_s, g0, gS, ex1, true_and]
  with_reducible refine And.intro ?_ ?_
  with_reducible exact vpi6 k0.1 k0.2
  with_reducible refine And.intro ?_ ?_
  omega
  with_reducible refine And.intro ?_ ?_
  omega
  ((with_reducible refine isQ (Q := Q) ?_); exact hN k0 (cdN hcd k0 (by assumption)) _ (hC.card gc hc a0.toNatClampNeg none none trivial))
  with_reducible intro _
  with_reducible intro _
  with_reducible refine And.intro ?_ ?_
  omega
  with_reducible refine And.intro ?_ ?_
  omega
  with_reducible refine And.intro ?_ ?_
  omega
  with_reducible refine fX1_asNumber (Or.inr rfl) ?_
  simp only [eX1_drop_21, eX1_drop_26, eX1_drop_29, rx, hc, n45, or_false, kx_l, go_s, gq_s, nl_int, tl_s, g0, gS, ex1, true_and]
  with_reducible refine And.intro ?_ ?_
  with_reducible exact vpi6 k0.1 k0.2
  with_reducible refine And.intro ?_ ?_
  omega
  with_reducible refine And.intro ?_ ?_
  omega
  ((with_reducible refine isQ (Q := Q) ?_); exact (cdS hcd k0 (by assumption)).elim (fun r h => hS k0 r h.1 _ (hC.card gc hc a0.toNatClampNeg none none trivial)))
end
end
/-! 71.fn7.lean.txt -/
section
section
variable {g : RO} {Q : Ot → Hw → Prop} {w0 w : Hw} {x nA cA lA : Nat} {kn : Int32}
set_option maxHeartbeats 4000000 in
theorem fX1_take {s : AS} {a0 a1 a2 : Int32} (hC : CS g w0 x nA cA lA kn s w) (hX : ¬ (okC a0 ∧ okN a2) → (Q (.inr "java/lang/IndexOutOfBoundsException") w)) (hW : okC a0 → okN a2 → ¬ okW a1 3 → (Q (.inr "java/lang/IllegalArgumentException") w)) (hS : okC a0 → okN a2 → okW a1 3 → s.2.1 a0.toNatClampNeg = none → (Q (.inr "java/lang/IllegalStateException") w)) (hQ : okC a0 → okN a2 → okW a1 3 → ∀ r, s.2.1 a0.toNatClampNeg = some r → ∀ w', CS g w0 x nA cA lA kn (sN s (vp_updL s.1 a2.toNatClampNeg (eV r a1))) w' → Q (.inl (some (.int (loV (eV r a1))))) w') : WP (MX1_take g) Q (0, [some (.ref x), some (.int a0), some (.int a1), some (.int a2)], [], w, 0, 0) := by
  obtain ⟨gc, gl, ⟨hx, hn, hc, hl, hgc, hgl, hn0, hn1, rx, rn, rc, rl, ⟨d1, d2, d3, d4, d5, d6⟩, ⟨d7, d8, d9, d10, d11, d12⟩⟩, hcd, hpl⟩ := hC.1.opn g
  simp only [eX1_take_0, eX1_take_4, eX1_take_8, eX1_take_13, eX1_take_20, wt_nil, wt_int, wt_ref, Nat.zero_add]
  with_reducible refine And.intro ?_ ?_
  omega
  with_reducible refine And.intro ?_ ?_
  omega
  with_reducible refine And.intro ?_ ?_
  omega
  with_reducible refine fX1_needCard (a0 := a0) (fun _ => ?_) (fun k0 => ?_)
  simp only [kx_r]
  with_reducible exact hX (fun h => absurd h.1 (by assumption))
  simp only [kx_l, wt_nil, tl_n]
  with_reducible refine And.intro ?_ ?_
  omega
  with_reducible refine And.intro ?_ ?_
  omega
  with_reducible refine And.intro ?_ ?_
  omega
  with_reducible refine fX1_needNumber (a0 := a2) (fun _ => ?_) (fun k2 => ?_)
  simp only [kx_r]
  with_reducible exact hX (fun h => absurd h.2 (by assumption))
  simp only [kx_l, wt_nil, tl_n]
  with_reducible refine And.intro ?_ ?_
  omega
  with_reducible refine And.intro ?_ ?_
  omega
  with_reducible refine And.intro ?_ ?_
  omega
  with_reducible refine fX1_needChoice (fun hnw => ?_) (fun hw => ?_)
  simp only [kx_r]
  with_reducible exact hW k0 k2 hnw
  simp only [rx, kx_l, go_s, wt_nil, tl_n, true_and, Nat.add_zero]
  with_reducible refine And.intro ?_ ?_
  omega
  with_reducible refine And.intro ?_ ?_
  omega
  with_reducible refine And.intro ?_ ?_
  omega
  with_reducible refine fX1_rangeOf (a0 := a0) hC (fun _ => ?_) (fun _ e1 => ?_) (fun _ p r e1 hp => ?_)
  simp only [kx_r]
  with_reducible exact hX (fun h => absurd h.1 (by assumption))
  simp only [kx_r]
  with_reducible exact hS k0 k2 hw e1
  simp only [eX1_take_21, kx_l, wt_nil, wt_int, wt_ref, tl_s, Nat.add_zero]
  with_reducible refine And.intro ?_ ?_
  with_reducible refine go_F hp ?_
  with_reducible exact trivial
  with_reducible refine And.intro ?_ ?_
  omega
  with_reducible refine And.intro ?_ ?_
  omega
  with_reducible refine And.intro ?_ ?_
  omega
  with_reducible refine fX0_endAt hp ?_
  simp only [eX1_take_24, rx, kx_l, go_s, wt_nil, tl_s, true_and, Nat.add_zero]
  with_reducible refine And.intro ?_ ?_
  omega
  with_reducible refine And.intro ?_ ?_
  omega
  with_reducible refine And.intro ?_ ?_
  omega
  with_reducible refine fX1_putNumber hC k2.1 k2.2 (fun w1 g1 => ?_)
  simp only [eX1_take_27, kx_l, tl_s]
  with_reducible refine And.intro ?_ ?_
  omega
  with_reducible refine And.intro ?_ ?_
  omega
  with_reducible exact hQ k0 k2 hw r e1 w1 g1
set_option maxHeartbeats 4000000 in
theorem fX1_end {s : AS} {a0 a1 a2 : Int32} (hC : CS g w0 x nA cA lA kn s w) (hX : ¬ okC a0 → (Q (.inr "java/lang/IndexOutOfBoundsException") w)) (hW : okC a0 → ¬ okW a1 3 → (Q (.inr "java/lang/IllegalArgumentException") w)) (hS : okC a0 → okW a1 3 → s.2.1 a0.toNatClampNeg = none → (Q (.inr "java/lang/IllegalStateException") w)) (hQ : okC a0 → okW a1 3 → ∀ r, s.2.1 a0.toNatClampNeg = some r → Q (.inl (some (.int (hfV (eV r a1) a2)))) w) : WP (MX1_end g) Q (0, [some (.ref x), some (.int a0), some (.int a1), some (.int a2)], [], w, 0, 0) := by
  obtain ⟨gc, gl, ⟨hx, hn, hc, hl, hgc, hgl, hn0, hn1, rx, rn, rc, rl, ⟨d1, d2, d3, d4, d5, d6⟩, ⟨d7, d8, d9, d10, d11, d12⟩⟩, hcd, hpl⟩ := hC.1.opn g
  simp only [eX1_end_0, eX1_end_4, eX1_end_9, eX1_end_14, wt_nil, Nat.zero_add]
  with_reducible refine And.intro ?_ ?_
  omega
  with_reducible refine And.intro ?_ ?_
  omega
  with_reducible refine And.intro ?_ ?_
  omega
  with_reducible refine fX1_needCard (a0 := a0) (fun _ => ?_) (fun k0 => ?_)
  simp only [kx_r]
  with_reducible exact hX (by assumption)
  simp only [kx_l, wt_nil, tl_n]
  with_reducible refine And.intro ?_ ?_
  omega
  with_reducible refine And.intro ?_ ?_
  omega
  with_reducible refine And.intro ?_ ?_
  omega
  with_reducible refine fX1_needChoice (fun hnw => ?_) (fun hw => ?_)
  simp only [kx_r]
  with_reducible exact hW k0 hnw
  simp only [rx, kx_l, go_s, wt_nil, tl_n, true_and]
  with_reducible refine And.intro ?_ ?_
  omega
  with_reducible refine And.intro ?_ ?_
  omega
  with_reducible refine And.intro ?_ ?_
  omega
  with_reducible refine fX1_rangeOf (a0 := a0) hC (fun _ => ?_) (fun _ e1 => ?_) (fun _ p r e1 hp => ?_)
  simp only [kx_r]
  with_reducible exact hX (by assumption)
  simp only [kx_r]
  with_reducible exact hS k0 hw e1
  simp only [eX1_end_15, eX1_end_18, kx_l, wt_nil, tl_s, Nat.add_zero]
  with_reducible refine And.intro ?_ ?_
  with_reducible refine go_F hp ?_
  with_reducible exact trivial
  with_reducible refine And.intro ?_ ?_
  omega
  with_reducible refine And.intro ?_ ?_
  omega
  with_reducible refine And.intro ?_ ?_
  omega
  with_reducible refine fX0_endAt hp ?_
  simp only [eX1_end_19, kx_l, wt_nil, tl_s, Nat.add_zero]
  with_reducible refine And.intro ?_ ?_
  omega
  with_reducible refine And.intro ?_ ?_
  omega
  with_reducible refine And.intro ?_ ?_
  omega
  with_reducible refine fX1_halfOf ?_
  simp only [eX1_end_22, kx_l, tl_s]
  with_reducible refine And.intro ?_ ?_
  omega
  with_reducible refine And.intro ?_ ?_
  omega
  with_reducible exact hQ k0 hw r e1
set_option maxHeartbeats 4000000 in
theorem fX1_isThere {s : AS} {a0 : Int32} (hC : CS g w0 x nA cA lA kn s w) (hX : ¬ okC a0 → (Q (.inr "java/lang/IndexOutOfBoundsException") w)) (hF : okC a0 → s.2.1 a0.toNatClampNeg = none → Q (.inl (some (.int 0))) w) (hT : okC a0 → ∀ r, s.2.1 a0.toNatClampNeg = some r → Q (.inl (some (.int 1))) w) : WP (MX1_isThere g) Q (0, [some (.ref x), some (.int a0)], [], w, 0, 0) := by
  obtain ⟨gc, gl, ⟨hx, hn, hc, hl, hgc, hgl, hn0, hn1, rx, rn, rc, rl, ⟨d1, d2, d3, d4, d5, d6⟩, ⟨d7, d8, d9, d10, d11, d12⟩⟩, hcd, hpl⟩ := hC.1.opn g
  simp only [eX1_isThere_0, eX1_isThere_4, eX1_isThere_8, wt_nil, Nat.zero_add]
  with_reducible refine And.intro ?_ ?_
  omega
  with_reducible refine And.intro ?_ ?_
  omega
  with_reducible refine And.intro ?_ ?_
  omega
  with_reducible refine fX1_needCard (a0 := a0) (fun _ => ?_) (fun k0 => ?_)
  simp only [kx_r]
  with_reducible exact hX (by assumption)
  simp only [eX1_isThere_9, eX1_isThere_10R, eX1_isThere_10N, eX1_isThere_13, eX1_isThere_17, eX1_isThere_18, rx, rc, n45, or_false, kx_l, go_s, gq_s, rf_st, tl_n, g0, gS, ex1, nb_0, nb_1, true_and]
  with_reducible refine And.intro ?_ ?_
  with_reducible exact vpi6 k0.1 k0.2
  with_reducible refine And.intro ?_ ?_
  with_reducible intro _
  with_reducible refine And.intro ?_ ?_
  omega
  with_reducible refine And.intro ?_ ?_
  omega
  with_reducible exact hF k0 (cdN hcd k0 (by assumption))
  with_reducible intro _
  with_reducible intro _
  with_reducible refine And.intro ?_ ?_
  omega
  with_reducible refine And.intro ?_ ?_
  omega
  with_reducible exact (cdS hcd k0 (by assumption)).elim (fun r h => hT k0 r h.1)
set_option maxHeartbeats 4000000 in
theorem fX1_isFixed {s : AS} {a0 : Int32} (hC : CS g w0 x nA cA lA kn s w) (hX : ¬ okC a0 → (Q (.inr "java/lang/IndexOutOfBoundsException") w)) (hS : okC a0 → s.2.1 a0.toNatClampNeg = none → (Q (.inr "java/lang/IllegalStateException") w)) (hT : okC a0 → ∀ r, s.2.1 a0.toNatClampNeg = some r → fP r → Q (.inl (some (.int 1))) w) (hF : okC a0 → ∀ r, s.2.1 a0.toNatClampNeg = some r → ¬ (fP r) → Q (.inl (some (.int 0))) w) : WP (MX1_isFixed g) Q (0, [some (.ref x), some (.int a0)], [], w, 0, 0) := by
  obtain ⟨gc, gl, ⟨hx, hn, hc, hl, hgc, hgl, hn0, hn1, rx, rn, rc, rl, ⟨d1, d2, d3, d4, d5, d6⟩, ⟨d7, d8, d9, d10, d11, d12⟩⟩, hcd, hpl⟩ := hC.1.opn g
  simp only [eX1_isFixed_0, rx, go_s, wt_nil, true_and, Nat.zero_add]
  with_reducible refine And.intro ?_ ?_
  omega
  with_reducible refine And.intro ?_ ?_
  omega
  with_reducible refine And.intro ?_ ?_
  omega
  with_reducible refine fX1_rangeOf (a0 := a0) hC (fun _ => ?_) (fun k0 e1 => ?_) (fun k0 p r e1 hp => ?_)
  simp only [kx_r]
  with_reducible exact hX (by assumption)
  simp only [kx_r]
  with_reducible exact hS k0 e1
  simp only [eX1_isFixed_5, kx_l, wt_nil, tl_s, Nat.add_zero]
  with_reducible refine And.intro ?_ ?_
  with_reducible refine go_F hp ?_
  with_reducible exact trivial
  with_reducible refine And.intro ?_ ?_
  omega
  with_reducible refine And.intro ?_ ?_
  omega
  with_reducible refine And.intro ?_ ?_
  omega
  with_reducible refine fX0_isSettled hp (fun hm => ?_) (fun hm => ?_)
  simp only [eX1_isFixed_8, kx_l, tl_s, nb_1, true_and]
  with_reducible refine And.intro ?_ ?_
  omega
  with_reducible refine And.intro ?_ ?_
  omega
  with_reducible exact hT k0 r e1 hm
  simp only [eX1_isFixed_8, kx_l, tl_s, nb_0, true_and]
  with_reducible refine And.intro ?_ ?_
  omega
  with_reducible refine And.intro ?_ ?_
  omega
  with_reducible exact hF k0 r e1 hm
set_option maxHeartbeats 4000000 in
theorem fX1_isSmall {s : AS} {a0 : Int32} (hC : CS g w0 x nA cA lA kn s w) (hX : ¬ okC a0 → (Q (.inr "java/lang/IndexOutOfBoundsException") w)) (hS : okC a0 → s.2.1 a0.toNatClampNeg = none → (Q (.inr "java/lang/IllegalStateException") w)) (hT : okC a0 → ∀ r, s.2.1 a0.toNatClampNeg = some r → sP r → Q (.inl (some (.int 1))) w) (hF : okC a0 → ∀ r, s.2.1 a0.toNatClampNeg = some r → ¬ (sP r) → Q (.inl (some (.int 0))) w) : WP (MX1_isSmall g) Q (0, [some (.ref x), some (.int a0)], [], w, 0, 0) := by
  obtain ⟨gc, gl, ⟨hx, hn, hc, hl, hgc, hgl, hn0, hn1, rx, rn, rc, rl, ⟨d1, d2, d3, d4, d5, d6⟩, ⟨d7, d8, d9, d10, d11, d12⟩⟩, hcd, hpl⟩ := hC.1.opn g
  simp only [eX1_isSmall_0, rx, go_s, wt_nil, true_and, Nat.zero_add]
  with_reducible refine And.intro ?_ ?_
  omega
  with_reducible refine And.intro ?_ ?_
  omega
  with_reducible refine And.intro ?_ ?_
  omega
  with_reducible refine fX1_rangeOf (a0 := a0) hC (fun _ => ?_) (fun k0 e1 => ?_) (fun k0 p r e1 hp => ?_)
  simp only [kx_r]
  with_reducible exact hX (by assumption)
  simp only [kx_r]
  with_reducible exact hS k0 e1
  simp only [eX1_isSmall_5, kx_l, wt_nil, tl_s, Nat.add_zero]
  with_reducible refine And.intro ?_ ?_
  with_reducible refine go_F hp ?_
  with_reducible exact trivial
  with_reducible refine And.intro ?_ ?_
  omega
  with_reducible refine And.intro ?_ ?_
  omega
  with_reducible refine And.intro ?_ ?_
  omega
  with_reducible refine fX0_fitsSmall hp (fun hm => ?_) (fun hm => ?_)
  simp only [eX1_isSmall_8, kx_l, tl_s, nb_1, true_and]
  with_reducible refine And.intro ?_ ?_
  omega
  with_reducible refine And.intro ?_ ?_
  omega
  with_reducible exact hT k0 r e1 hm
  simp only [eX1_isSmall_8, kx_l, tl_s, nb_0, true_and]
  with_reducible refine And.intro ?_ ?_
  omega
  with_reducible refine And.intro ?_ ?_
  omega
  with_reducible exact hF k0 r e1 hm
set_option maxHeartbeats 4000000 in
theorem fX1_isValid {s : AS} {a0 a1 : Int32} (hC : CS g w0 x nA cA lA kn s w) (hX : ¬ (okC a0 ∧ okN a1) → (Q (.inr "java/lang/IndexOutOfBoundsException") w)) (hS : okC a0 → okN a1 → s.2.1 a0.toNatClampNeg = none → (Q (.inr "java/lang/IllegalStateException") w)) (hT : okC a0 → okN a1 → ∀ r, s.2.1 a0.toNatClampNeg = some r → hP r (s.1 a1.toNatClampNeg) → Q (.inl (some (.int 1))) w) (hF : okC a0 → okN a1 → ∀ r, s.2.1 a0.toNatClampNeg = some r → ¬ (hP r (s.1 a1.toNatClampNeg)) → Q (.inl (some (.int 0))) w) : WP (MX1_isValid g) Q (0, [some (.ref x), some (.int a0), some (.int a1)], [], w, 0, 0) := by
  obtain ⟨gc, gl, ⟨hx, hn, hc, hl, hgc, hgl, hn0, hn1, rx, rn, rc, rl, ⟨d1, d2, d3, d4, d5, d6⟩, ⟨d7, d8, d9, d10, d11, d12⟩⟩, hcd, hpl⟩ := hC.1.opn g
  simp only [eX1_isValid_0, eX1_isValid_4, eX1_isValid_8, eX1_isValid_13, eX1_isValid_17, wt_nil, Nat.zero_add]
  with_reducible refine And.intro ?_ ?_
  omega
  with_reducible refine And.intro ?_ ?_
  omega
  with_reducible refine And.intro ?_ ?_
  omega
  with_reducible refine fX1_needCard (a0 := a0) (fun _ => ?_) (fun k0 => ?_)
  simp only [kx_r]
  with_reducible exact hX (fun h => absurd h.1 (by assumption))
  simp only [kx_l, wt_nil, tl_n]
  with_reducible refine And.intro ?_ ?_
  omega
  with_reducible refine And.intro ?_ ?_
  omega
  with_reducible refine And.intro ?_ ?_
  omega
  with_reducible refine fX1_needNumber (a0 := a1) (fun _ => ?_) (fun k1 => ?_)
  simp only [kx_r]
  with_reducible exact hX (fun h => absurd h.2 (by assumption))
  simp only [rx, kx_l, go_s, wt_nil, tl_n, true_and]
  with_reducible refine And.intro ?_ ?_
  omega
  with_reducible refine And.intro ?_ ?_
  omega
  with_reducible refine And.intro ?_ ?_
  omega
  with_reducible refine fX1_rangeOf (a0 := a0) hC (fun _ => ?_) (fun _ e1 => ?_) (fun _ p r e1 hp => ?_)
  simp only [kx_r]
  with_reducible exact hX (fun h => absurd h.1 (by assumption))
  simp only [kx_r]
  with_reducible exact hS k0 k1 e1
  simp only [eX1_isValid_18, eX1_isValid_19, rx, rn, kx_l, go_s, gl_s, wt_nil, tl_s, g0, ex1, Nat.add_zero]
  with_reducible refine And.intro ?_ ?_
  with_reducible exact vpi8 k1.1 k1.2
  with_reducible refine And.intro ?_ ?_
  with_reducible refine go_F hp ?_
  with_reducible exact trivial
  with_reducible refine And.intro ?_ ?_
  omega
  with_reducible refine And.intro ?_ ?_
  omega
  with_reducible refine And.intro ?_ ?_
  omega
  with_reducible refine fX0_holds hp (fun hm => ?_) (fun hm => ?_)
  simp only [eX1_isValid_22, kx_l, tl_s, nb_1, true_and]
  with_reducible refine And.intro ?_ ?_
  omega
  with_reducible refine And.intro ?_ ?_
  omega
  with_reducible exact hT k0 k1 r e1 hm
  simp only [eX1_isValid_22, kx_l, tl_s, nb_0, true_and]
  with_reducible refine And.intro ?_ ?_
  omega
  with_reducible refine And.intro ?_ ?_
  omega
  with_reducible exact hF k0 k1 r e1 hm
set_option maxHeartbeats 4000000 in
theorem fX1_isValidSmall {s : AS} {a0 a1 : Int32} (hC : CS g w0 x nA cA lA kn s w) (hX : ¬ (okC a0 ∧ okN a1) → (Q (.inr "java/lang/IndexOutOfBoundsException") w)) (hS : okC a0 → okN a1 → s.2.1 a0.toNatClampNeg = none → (Q (.inr "java/lang/IllegalStateException") w)) (hT : okC a0 → okN a1 → ∀ r, s.2.1 a0.toNatClampNeg = some r → (sP r ∧ hP r (s.1 a1.toNatClampNeg)) → Q (.inl (some (.int 1))) w) (hF : okC a0 → okN a1 → ∀ r, s.2.1 a0.toNatClampNeg = some r → ¬ ((sP r ∧ hP r (s.1 a1.toNatClampNeg))) → Q (.inl (some (.int 0))) w) : WP (MX1_isValidSmall g) Q (0, [some (.ref x), some (.int a0), some (.int a1)], [], w, 0, 0) := by
  obtain ⟨gc, gl, ⟨hx, hn, hc, hl, hgc, hgl, hn0, hn1, rx, rn, rc, rl, ⟨d1, d2, d3, d4, d5, d6⟩, ⟨d7, d8, d9, d10, d11, d12⟩⟩, hcd, hpl⟩ := hC.1.opn g
  simp only [eX1_isValidSmall_0, eX1_isValidSmall_4, eX1_isValidSmall_8, eX1_isValidSmall_13, eX1_isValidSmall_17, wt_nil, Nat.zero_add]
  with_reducible refine And.intro ?_ ?_
  omega
  with_reducible refine And.intro ?_ ?_
  omega
  with_reducible refine And.intro ?_ ?_
  omega
  with_reducible refine fX1_needCard (a0 := a0) (fun _ => ?_) (fun k0 => ?_)
  simp only [kx_r]
  with_reducible exact hX (fun h => absurd h.1 (by assumption))
  simp only [kx_l, wt_nil, tl_n]
  with_reducible refine And.intro ?_ ?_
  omega
  with_reducible refine And.intro ?_ ?_
  omega
  with_reducible refine And.intro ?_ ?_
  omega
  with_reducible refine fX1_needNumber (a0 := a1) (fun _ => ?_) (fun k1 => ?_)
  simp only [kx_r]
  with_reducible exact hX (fun h => absurd h.2 (by assumption))
  simp only [rx, kx_l, go_s, wt_nil, tl_n, true_and]
  with_reducible refine And.intro ?_ ?_
  omega
  with_reducible refine And.intro ?_ ?_
  omega
  with_reducible refine And.intro ?_ ?_
  omega
  with_reducible refine fX1_rangeOf (a0 := a0) hC (fun _ => ?_) (fun _ e1 => ?_) (fun _ p r e1 hp => ?_)
  simp only [kx_r]
  with_reducible exact hX (fun h => absurd h.1 (by assumption))
  simp only [kx_r]
  with_reducible exact hS k0 k1 e1
  simp only [eX1_isValidSmall_18, eX1_isValidSmall_19, rx, rn, kx_l, go_s, gl_s, wt_nil, tl_s, g0, ex1, Nat.add_zero]
  with_reducible refine And.intro ?_ ?_
  with_reducible exact vpi8 k1.1 k1.2
  with_reducible refine And.intro ?_ ?_
  with_reducible refine go_F hp ?_
  with_reducible exact trivial
  with_reducible refine And.intro ?_ ?_
  omega
  with_reducible refine And.intro ?_ ?_
  omega
  with_reducible refine And.intro ?_ ?_
  omega
  with_reducible refine fX0_holdsAsSmall hp (fun hm => ?_) (fun hm => ?_)
  simp only [eX1_isValidSmall_22, kx_l, tl_s, nb_1, true_and]
  with_reducible refine And.intro ?_ ?_
  omega
  with_reducible refine And.intro ?_ ?_
  omega
  with_reducible exact hT k0 k1 r e1 hm
  simp only [eX1_isValidSmall_22, kx_l, tl_s, nb_0, true_and]
  with_reducible refine And.intro ?_ ?_
  omega
  with_reducible refine And.intro ?_ ?_
  omega
  with_reducible exact hF k0 k1 r e1 hm
def wV (r : R4) (v : Int64) : Int32 := bI (decide (hP r v)) + bI (decide (sP r ∧ hP r v))
def nV (r : R4) (v : Int64) (a : Int32) : Int32 := bI (decide ((a = 0 ∨ sP r) ∧ hP r (v - 1))) + 2 * bI (decide ((a = 0 ∨ sP r) ∧ hP r v)) + 4 * bI (decide ((a = 0 ∨ sP r) ∧ hP r (v + 1)))
set_option maxHeartbeats 4000000 in
theorem fX1_validityIn {p : Nat} {r : R4} {a0 : Int64} (hp : rAt w p r) (hQ : Q (.inl (some (.int (wV r a0)))) w) : WP (MX1_validityIn g) Q (0, [some (.ref p), some (.long a0), none], [], w, 0, 0) := by
  simp only [eX1_validityIn_0, wt_nil, Nat.add_zero]
  with_reducible refine And.intro ?_ ?_
  with_reducible exact go_F (by assumption) trivial
  with_reducible refine And.intro ?_ ?_
  omega
  with_reducible refine And.intro ?_ ?_
  omega
  with_reducible refine And.intro ?_ ?_
  omega
  with_reducible refine vX0_holds hp ?_
  simp only [eX1_validityIn_5, eX1_validityIn_8, kx_l, wt_nil, tl_s, Nat.add_zero]
  with_reducible refine And.intro ?_ ?_
  omega
  with_reducible refine And.intro ?_ ?_
  omega
  with_reducible refine And.intro ?_ ?_
  omega
  with_reducible refine fX1_asNumber (bI01 _) ?_
  simp only [kx_l, wt_nil, wt_int, tl_s, Nat.add_zero]
  with_reducible refine And.intro ?_ ?_
  with_reducible exact go_F (by assumption) trivial
  with_reducible refine And.intro ?_ ?_
  omega
  with_reducible refine And.intro ?_ ?_
  omega
  with_reducible refine And.intro ?_ ?_
  omega
  with_reducible refine vX0_holdsAsSmall hp ?_
  simp only [eX1_validityIn_13, kx_l, wt_nil, wt_int, tl_s, Nat.add_zero]
  with_reducible refine And.intro ?_ ?_
  omega
  with_reducible refine And.intro ?_ ?_
  omega
  with_reducible refine And.intro ?_ ?_
  omega
  with_reducible refine fX1_asNumber (bI01 _) ?_
  simp only [eX1_validityIn_16, kx_l, tl_s]
  with_reducible refine And.intro ?_ ?_
  omega
  with_reducible refine And.intro ?_ ?_
  omega
  ((with_reducible refine isQ (Q := Q) ?_); exact hQ)
set_option maxHeartbeats 4000000 in
theorem fX1_neighboursIn {p : Nat} {r : R4} {a0 : Int64} {a1 : Int32} (hp : rAt w p r) (hQ : Q (.inl (some (.int (nV r a0 a1)))) w) : WP (MX1_neighboursIn g) Q (0, [some (.ref p), some (.long a0), none, some (.int a1)], [], w, 0, 0) := by
  simp only [eX1_neighboursIn_0, wt_nil, Nat.add_zero]
  with_reducible refine And.intro ?_ ?_
  with_reducible exact go_F (by assumption) trivial
  with_reducible refine And.intro ?_ ?_
  omega
  with_reducible refine And.intro ?_ ?_
  omega
  with_reducible refine And.intro ?_ ?_
  omega
  with_reducible refine vX0_holdsAs hp ?_
  simp only [eX1_neighboursIn_8, eX1_neighboursIn_11, kx_l, wt_nil, wt_int, tl_s, Nat.add_zero]
  with_reducible refine And.intro ?_ ?_
  omega
  with_reducible refine And.intro ?_ ?_
  omega
  with_reducible refine And.intro ?_ ?_
  omega
  with_reducible refine fX1_asNumber (bI01 _) ?_
  simp only [kx_l, wt_nil, wt_int, tl_s, Nat.add_zero]
  with_reducible refine And.intro ?_ ?_
  with_reducible exact go_F (by assumption) trivial
  with_reducible refine And.intro ?_ ?_
  omega
  with_reducible refine And.intro ?_ ?_
  omega
  with_reducible refine And.intro ?_ ?_
  omega
  with_reducible refine vX0_holdsAs hp ?_
  simp only [eX1_neighboursIn_18, kx_l, wt_nil, wt_int, tl_s, Nat.add_zero]
  with_reducible refine And.intro ?_ ?_
  omega
  with_reducible refine And.intro ?_ ?_
  omega
  with_reducible refine And.intro ?_ ?_
  omega
  with_reducible refine fX1_asNumber (bI01 _) ?_
  simp only [eX1_neighboursIn_21, kx_l, wt_nil, wt_int, tl_s, Nat.add_zero]
  with_reducible refine And.intro ?_ ?_
  with_reducible exact go_F (by assumption) trivial
  with_reducible refine And.intro ?_ ?_
  omega
  with_reducible refine And.intro ?_ ?_
  omega
  with_reducible refine And.intro ?_ ?_
  omega
  with_reducible refine vX0_holdsAs hp ?_
  simp only [eX1_neighboursIn_32, kx_l, wt_nil, wt_int, tl_s, Nat.add_zero]
  with_reducible refine And.intro ?_ ?_
  omega
  with_reducible refine And.intro ?_ ?_
  omega
  with_reducible refine And.intro ?_ ?_
  omega
  with_reducible refine fX1_asNumber (bI01 _) ?_
  simp only [eX1_neighboursIn_35, kx_l, tl_s]
  with_reducible refine And.intro ?_ ?_
  omega
  with_reducible refine And.intro ?_ ?_
  omega
  ((with_reducible refine isQ (Q := Q) ?_); exact hQ)
set_option maxHeartbeats 4000000 in
theorem fX1_whichValid {s : AS} {a0 a1 : Int32} (hC : CS g w0 x nA cA lA kn s w) (hX : ¬ okC a0 → (Q (.inr "java/lang/IndexOutOfBoundsException") w)) (hS : okC a0 → s.2.1 a0.toNatClampNeg = none → (Q (.inr "java/lang/IllegalStateException") w)) (hQ : okC a0 → ∀ r, s.2.1 a0.toNatClampNeg = some r → Q (.inl (some (.int (wV r a1.toInt64)))) w) : WP (MX1_whichValid g) Q (0, [some (.ref x), some (.int a0), some (.int a1)], [], w, 0, 0) := by
  obtain ⟨gc, gl, ⟨hx, hn, hc, hl, hgc, hgl, hn0, hn1, rx, rn, rc, rl, ⟨d1, d2, d3, d4, d5, d6⟩, ⟨d7, d8, d9, d10, d11, d12⟩⟩, hcd, hpl⟩ := hC.1.opn g
  simp only [eX1_whichValid_0, eX1_whichValid_5, rx, go_s, wt_nil, true_and, Nat.zero_add]
  with_reducible refine And.intro ?_ ?_
  omega
  with_reducible refine And.intro ?_ ?_
  omega
  with_reducible refine And.intro ?_ ?_
  omega
  with_reducible refine fX1_rangeOf (a0 := a0) hC (fun _ => ?_) (fun k0 e1 => ?_) (fun k0 p r e1 hp => ?_)
  simp only [kx_r]
  with_reducible exact hX (by assumption)
  simp only [kx_r]
  with_reducible exact hS k0 e1
  simp only [eX1_whichValid_7R, kx_l, wt_nil, tl_s, Nat.add_zero]
  with_reducible refine And.intro ?_ ?_
  omega
  with_reducible refine And.intro ?_ ?_
  omega
  with_reducible refine And.intro ?_ ?_
  omega
  with_reducible refine fX1_validityIn hp ?_
  simp only [eX1_whichValid_10, kx_l, tl_s]
  with_reducible refine And.intro ?_ ?_
  omega
  with_reducible refine And.intro ?_ ?_
  omega
  with_reducible exact hQ k0 r e1
set_option maxHeartbeats 4000000 in
theorem fX1_around {s : AS} {a0 a1 a2 : Int32} (hC : CS g w0 x nA cA lA kn s w) (hX : ¬ okC a0 → (Q (.inr "java/lang/IndexOutOfBoundsException") w)) (hW : okC a0 → ¬ okW a1 3 → (Q (.inr "java/lang/IllegalArgumentException") w)) (hS : okC a0 → okW a1 3 → s.2.1 a0.toNatClampNeg = none → (Q (.inr "java/lang/IllegalStateException") w)) (hQ : okC a0 → okW a1 3 → ∀ r, s.2.1 a0.toNatClampNeg = some r → Q (.inl (some (.int (nV r (eV r a1) a2)))) w) : WP (MX1_around g) Q (0, [some (.ref x), some (.int a0), some (.int a1), some (.int a2), none], [], w, 0, 0) := by
  obtain ⟨gc, gl, ⟨hx, hn, hc, hl, hgc, hgl, hn0, hn1, rx, rn, rc, rl, ⟨d1, d2, d3, d4, d5, d6⟩, ⟨d7, d8, d9, d10, d11, d12⟩⟩, hcd, hpl⟩ := hC.1.opn g
  simp only [eX1_around_0, eX1_around_4, eX1_around_9, wt_nil, Nat.zero_add]
  with_reducible refine And.intro ?_ ?_
  omega
  with_reducible refine And.intro ?_ ?_
  omega
  with_reducible refine And.intro ?_ ?_
  omega
  with_reducible refine fX1_needCard (a0 := a0) (fun _ => ?_) (fun k0 => ?_)
  simp only [kx_r]
  with_reducible exact hX (by assumption)
  simp only [kx_l, wt_nil, tl_n]
  with_reducible refine And.intro ?_ ?_
  omega
  with_reducible refine And.intro ?_ ?_
  omega
  with_reducible refine And.intro ?_ ?_
  omega
  with_reducible refine fX1_needChoice (fun hnw => ?_) (fun hw => ?_)
  simp only [kx_r]
  with_reducible exact hW k0 hnw
  simp only [rx, kx_l, go_s, wt_nil, tl_n, true_and]
  with_reducible refine And.intro ?_ ?_
  omega
  with_reducible refine And.intro ?_ ?_
  omega
  with_reducible refine And.intro ?_ ?_
  omega
  with_reducible refine fX1_rangeOf (a0 := a0) hC (fun _ => ?_) (fun _ e1 => ?_) (fun _ p r e1 hp => ?_)
  simp only [kx_r]
  with_reducible exact hX (by assumption)
  simp only [kx_r]
  with_reducible exact hS k0 hw e1
  simp only [eX1_around_14, eX1_around_24, kx_l, wt_nil, wt_ref, nl_int, tl_s, Nat.add_zero]
  with_reducible refine And.intro ?_ ?_
  with_reducible refine go_F hp ?_
  with_reducible exact trivial
  with_reducible refine And.intro ?_ ?_
  omega
  with_reducible refine And.intro ?_ ?_
  omega
  with_reducible refine And.intro ?_ ?_
  omega
  with_reducible refine fX0_endAt hp ?_
  simp only [eX1_around_25R, kx_l, wt_nil, tl_s, Nat.add_zero]
  with_reducible refine And.intro ?_ ?_
  omega
  with_reducible refine And.intro ?_ ?_
  omega
  with_reducible refine And.intro ?_ ?_
  omega
  with_reducible refine fX1_neighboursIn hp ?_
  simp only [eX1_around_28, kx_l, tl_s]
  with_reducible refine And.intro ?_ ?_
  omega
  with_reducible refine And.intro ?_ ?_
  omega
  with_reducible exact hQ k0 hw r e1
set_option maxHeartbeats 4000000 in
theorem fX1_areSame {s : AS} {a0 a1 : Int32} (hC : CS g w0 x nA cA lA kn s w) (hX : ¬ (okC a0 ∧ okC a1) → (Q (.inr "java/lang/IndexOutOfBoundsException") w)) (hS : okC a0 → okC a1 → (s.2.1 a0.toNatClampNeg = none ∨ s.2.1 a1.toNatClampNeg = none) → (Q (.inr "java/lang/IllegalStateException") w)) (hT : okC a0 → okC a1 → ∀ r q, s.2.1 a0.toNatClampNeg = some r → s.2.1 a1.toNatClampNeg = some q → mP r q → Q (.inl (some (.int 1))) w) (hF : okC a0 → okC a1 → ∀ r q, s.2.1 a0.toNatClampNeg = some r → s.2.1 a1.toNatClampNeg = some q → ¬ mP r q → Q (.inl (some (.int 0))) w) : WP (MX1_areSame g) Q (0, [some (.ref x), some (.int a0), some (.int a1)], [], w, 0, 0) := by
  obtain ⟨gc, gl, ⟨hx, hn, hc, hl, hgc, hgl, hn0, hn1, rx, rn, rc, rl, ⟨d1, d2, d3, d4, d5, d6⟩, ⟨d7, d8, d9, d10, d11, d12⟩⟩, hcd, hpl⟩ := hC.1.opn g
  simp only [eX1_areSame_0, eX1_areSame_4, eX1_areSame_8, eX1_areSame_13, wt_nil, Nat.zero_add]
  with_reducible refine And.intro ?_ ?_
  omega
  with_reducible refine And.intro ?_ ?_
  omega
  with_reducible refine And.intro ?_ ?_
  omega
  with_reducible refine fX1_needCard (a0 := a0) (fun _ => ?_) (fun k0 => ?_)
  simp only [kx_r]
  with_reducible exact hX (fun h => absurd h.1 (by assumption))
  simp only [kx_l, wt_nil, tl_n]
  with_reducible refine And.intro ?_ ?_
  omega
  with_reducible refine And.intro ?_ ?_
  omega
  with_reducible refine And.intro ?_ ?_
  omega
  with_reducible refine fX1_needCard (a0 := a1) (fun _ => ?_) (fun k1 => ?_)
  simp only [kx_r]
  with_reducible exact hX (fun h => absurd h.2 (by assumption))
  simp only [rx, kx_l, go_s, wt_nil, tl_n, true_and]
  with_reducible refine And.intro ?_ ?_
  omega
  with_reducible refine And.intro ?_ ?_
  omega
  with_reducible refine And.intro ?_ ?_
  omega
  with_reducible refine fX1_rangeOf (a0 := a0) hC (fun _ => ?_) (fun _ e1 => ?_) (fun _ p r e1 hp => ?_)
  simp only [kx_r]
  with_reducible exact hX (fun h => absurd h.1 (by assumption))
  simp only [kx_r]
  with_reducible exact hS k0 k1 (Or.inl e1)
  simp only [rx, kx_l, go_s, wt_nil, wt_ref, tl_s, true_and, Nat.add_zero]
  with_reducible refine And.intro ?_ ?_
  omega
  with_reducible refine And.intro ?_ ?_
  omega
  with_reducible refine And.intro ?_ ?_
  omega
  with_reducible refine fX1_rangeOf (a0 := a1) hC (fun _ => ?_) (fun _ e2 => ?_) (fun _ p2 r2 e2 hp2 => ?_)
  simp only [kx_r]
  with_reducible exact hX (fun h => absurd h.2 (by assumption))
  simp only [kx_r]
  with_reducible exact hS k0 k1 (Or.inr e2)
  simp only [eX1_areSame_18R, kx_l, wt_nil, tl_s, Nat.add_zero]
  with_reducible refine And.intro ?_ ?_
  with_reducible refine go_F hp ?_
  with_reducible exact trivial
  with_reducible refine And.intro ?_ ?_
  omega
  with_reducible refine And.intro ?_ ?_
  omega
  with_reducible refine And.intro ?_ ?_
  omega
  with_reducible refine fX0_matchesR hp hp2 (fun hm => ?_) (fun hm => ?_)
  simp only [eX1_areSame_21, kx_l, tl_s, nb_1, true_and]
  with_reducible refine And.intro ?_ ?_
  omega
  with_reducible refine And.intro ?_ ?_
  omega
  with_reducible exact hT k0 k1 r r2 e1 e2 hm
  simp only [eX1_areSame_21, kx_l, tl_s, nb_0, true_and]
  with_reducible refine And.intro ?_ ?_
  omega
  with_reducible refine And.intro ?_ ?_
  omega
  with_reducible exact hF k0 k1 r r2 e1 e2 hm
end
end
/-! 71.fn8.lean.txt -/
section
section
variable {g : RO} {Q : Ot → Hw → Prop} {w0 w : Hw} {x nA cA lA : Nat} {kn : Int32}
theorem sal {b : Nat} {P : Nat → Prop} : (∀ c, some b = some c → P c) = P b := propext ⟨fun h => h b rfl, fun h c e => by cases e; exact h⟩
theorem snn {b : Nat} {P : Prop} : ((some b : Option Nat) = none → P) = True := eq_true (fun e => by cases e)
theorem inv_s {P : Nat → Prop} {j : Nat} (h : ∀ i, i < j → P i) (hj : P j) : ∀ i, i < j + 1 → P i := fun i hi => by
  rcases Nat.lt_succ_iff_lt_or_eq.mp hi with k | rfl
  · exact h i k
  · exact hj
theorem cnt12 {n : Int32} (h0 : ¬ n < 0) (h1 : ¬ 12 < n) : n.toInt = ((n.toInt.toNat : Nat) : Int) ∧ n.toInt.toNat ≤ 12 := by
  have k0 := i32_0 h0
  have k1 := i32_nlt h1
  have z : (12 : Int32).toInt = 12 := rfl
  omega
theorem vpj {j : Nat} (h : j < 12) : vp_in (Int32.ofNat j) 12 := by
  rintro (k | k)
  · exact oN0 (by omega) k
  · rw [oNc (by omega)] at k
    omega
set_option maxHeartbeats 4000000 in
theorem flX1_firstPlaceOf_2 {s : AS} {p : Nat} {r : R4} (hC : CS g w0 x nA cA lA kn s w) (hp : rAt w p r) (hN : (∀ i, i < s.2.2.1.toInt.toNat → ¬ mP r (s.2.2.2.1 i)) → Q (.inl (some (.int (-1)))) w) (hS : ∀ i, i < s.2.2.1.toInt.toNat → mP r (s.2.2.2.1 i) → (∀ k, k < i → ¬ mP r (s.2.2.2.1 k)) → Q (.inl (some (.int (Int32.ofNat i)))) w) : ∀ (d j : Nat) (k m : Nat), j + d = s.2.2.1.toInt.toNat → (∀ i, i < j → ¬ mP r (s.2.2.2.1 i)) → k ≤ 0 → m ≤ 0 → WP (MX1_firstPlaceOf g) Q (2, [some (.ref x), some (.ref p), some (.int (Int32.ofNat j))], [], w, k, m) := by
  obtain ⟨gc, gl, ⟨hx, hn, hc, hl, hgc, hgl, hn0, hn1, rx, rn, rc, rl, ⟨d1, d2, d3, d4, d5, d6⟩, ⟨d7, d8, d9, d10, d11, d12⟩⟩, hcd, hpl⟩ := hC.1.opn g
  obtain ⟨he, h12⟩ := cnt12 hn0 hn1
  intro d
  induction d with
  | zero =>
    intro j k m hjd hinv hk hm
    have h9 : j < 1000 := by omega
    have hlt : ¬ Int32.ofNat j < s.2.2.1 := oNg h9 he (by omega)
    obtain rfl : j = s.2.2.1.toInt.toNat := by omega
    rw [eX1_firstPlaceOf_2]
    simp only [eX1_firstPlaceOf_3, eX1_firstPlaceOf_7, eX1_firstPlaceOf_10, eX1_firstPlaceOf_15, eX1_firstPlaceOf_17R, eX1_firstPlaceOf_17N, eX1_firstPlaceOf_31, if_false, rx, rl, hlt, ite_le, n45, or_false, go_s, gq_s, wt_nil, rf_st, g0, gS, ex1, true_and, Nat.add_zero]
    with_reducible refine And.intro ?_ ?_
    with_reducible assumption
    with_reducible refine And.intro ?_ ?_
    with_reducible assumption
    with_reducible exact hN hinv
  | succ d ih =>
    intro j k m hjd hinv hk hm
    have h9 : j < 1000 := by omega
    have hlt : Int32.ofNat j < s.2.2.1 := oNl h9 he (by omega)
    have hcl := oNc h9
    obtain ⟨b, hb, hrb⟩ := hpl j (by omega)
    rw [eX1_firstPlaceOf_2]
    simp only [eX1_firstPlaceOf_3, eX1_firstPlaceOf_7, eX1_firstPlaceOf_10, eX1_firstPlaceOf_15, eX1_firstPlaceOf_17R, eX1_firstPlaceOf_17N, eX1_firstPlaceOf_31, if_true, rx, rl, hlt, hcl, hb, sal, snn, ite_le, n45, or_false, go_s, gq_s, wt_nil, rf_st, g0, gS, ex1, true_and, Nat.add_zero]
    with_reducible refine And.intro ?_ ?_
    with_reducible exact vpj (by omega)
    with_reducible refine And.intro ?_ ?_
    with_reducible exact go_F hp trivial
    with_reducible refine And.intro ?_ ?_
    omega
    with_reducible refine And.intro ?_ ?_
    with_reducible assumption
    with_reducible refine And.intro ?_ ?_
    with_reducible assumption
    with_reducible refine fX0_matchesR hp hrb (fun hm => ?_) (fun hm => ?_)
    simp only [eX1_firstPlaceOf_20, eX1_firstPlaceOf_23, eX1_firstPlaceOf_25, i10, if_false, kx_l, nl_ref, tl_s]
    with_reducible refine And.intro ?_ ?_
    with_reducible assumption
    with_reducible refine And.intro ?_ ?_
    with_reducible assumption
    with_reducible exact hS j (by omega) hm hinv
    simp only [eX1_firstPlaceOf_20, eX1_firstPlaceOf_23, eX1_firstPlaceOf_25, if_true, kx_l, nl_ref, tl_s]
    (rw [oN1]; exact ih (j + 1) _ _ (by omega) (inv_s hinv hm) (by first | assumption | omega) (by first | assumption | omega))
set_option maxHeartbeats 4000000 in
theorem fX1_firstPlaceOf {s : AS} {p : Nat} {r : R4} (hC : CS g w0 x nA cA lA kn s w) (hp : rAt w p r) (hN : (∀ i, i < s.2.2.1.toInt.toNat → ¬ mP r (s.2.2.2.1 i)) → Q (.inl (some (.int (-1)))) w) (hS : ∀ i, i < s.2.2.1.toInt.toNat → mP r (s.2.2.2.1 i) → (∀ k, k < i → ¬ mP r (s.2.2.2.1 k)) → Q (.inl (some (.int (Int32.ofNat i)))) w) : WP (MX1_firstPlaceOf g) Q (0, [some (.ref x), some (.ref p), none], [], w, 0, 0) := by
  simp only [eX1_firstPlaceOf_0, nl_ref]
  ((with_reducible refine isWP (pc := 2) ?_); exact flX1_firstPlaceOf_2 hC hp hN hS _ 0 _ _ (Nat.zero_add _) (fun i h => absurd h (Nat.not_lt_zero i)) (by decide) (by decide))
theorem CS.lay {s : AS} {b : Nat} {r : R4} {gl : Nat → Option Nat} (h : CS g w0 x nA cA lA kn s w) (hl : w lA = some (.inl (4, 12, qc gl))) (hb : rAt w b r) (h11 : s.2.2.1 < 12) : CS g w0 x nA cA lA kn (sP_ s (s.2.2.1 + 1) (va_up s.2.2.2.1 s.2.2.1.toNatClampNeg r)) (upw (upw w lA (.inl (4, 12, qc (va_up gl s.2.2.1.toNatClampNeg (some b))))) x (.inr (5, [.ref nA, .ref cA, .ref lA, .int (s.2.2.1 + 1), .int s.2.2.2.2.1, .int kn, .int s.2.2.2.2.2]))) := by
  obtain ⟨gc, gl', ⟨h1, h2, h3, h4, h5, h6, h7, h8, -, -, -, -, ⟨d1, d2, d3, d4, d5, d6⟩, ⟨d7, d8, d9, d10, d11, d12⟩⟩, k1, k2⟩ := h.1.opn (fun _ => .null, fun _ => none)
  rw [hl] at h4
  cases h4
  have q0 := i32_0 h7
  have q1 := i32_lt h11
  have z : (12 : Int32).toInt = 12 := rfl
  have e1 : (s.2.2.1 + 1).toInt = s.2.2.1.toInt + 1 := i32p1 q0 (by omega)
  have hx' : upw w lA (.inl (4, 12, qc (va_up gl s.2.2.1.toNatClampNeg (some b)))) x = some (.inr (5, [.ref nA, .ref cA, .ref lA, .int s.2.2.1, .int s.2.2.2.2.1, .int kn, .int s.2.2.2.2.2])) := by rw [upw_n d3]; exact h1
  have R : ∀ c q, rAt w c q → rAt (upw (upw w lA (.inl (4, 12, qc (va_up gl s.2.2.1.toNatClampNeg (some b))))) x (.inr (5, [.ref nA, .ref cA, .ref lA, .int (s.2.2.1 + 1), .int s.2.2.2.2.1, .int kn, .int s.2.2.2.2.2]))) c q := fun c q hc => rAt_up2 (rAt_up2 hc hl (by simp)) hx' (by simp)
  have RR : ∀ c, isR w c → isR (upw (upw w lA (.inl (4, 12, qc (va_up gl s.2.2.1.toNatClampNeg (some b))))) x (.inr (5, [.ref nA, .ref cA, .ref lA, .int (s.2.2.1 + 1), .int s.2.2.2.2.1, .int kn, .int s.2.2.2.2.2]))) c := fun c hc => isR_up2 (isR_up2 hc hl (by simp)) hx' (by simp)
  refine ⟨⟨gc, va_up gl s.2.2.1.toNatClampNeg (some b), ⟨upw_s _ _ _, by rw [upw_n d4, upw_n d6]; exact h2, by rw [upw_n d7, upw_n d9]; exact h3, by rw [upw_n d10]; exact upw_s _ _ _, fun i c z => RR c (h5 i c z), fun i c z => RR c ?_, i32_of_nlt (by show (0 : Int) ≤ (s.2.2.1 + 1).toInt; omega), i32_of_nlt (by show (s.2.2.1 + 1).toInt ≤ (12 : Int); omega)⟩, fun i hi => (k1 i hi).mp R, fun i hi => ?_⟩, (h.2.up hl (Or.inr rfl)).up hx' (Or.inr rfl)⟩
  · exact up_ok h6 (fun c e => by cases e; exact hb.isR) i c z
  · have hi' : (i : Int) < s.2.2.1.toInt + 1 := by
      have hi2 : (i : Int) < (s.2.2.1 + 1).toInt := hi
      omega
    have t : s.2.2.1.toNatClampNeg = s.2.2.1.toInt.toNat := rfl
    show ∃ c, va_up gl s.2.2.1.toNatClampNeg (some b) i = some c ∧ rAt _ c (va_up s.2.2.2.1 s.2.2.1.toNatClampNeg r i)
    unfold va_up
    by_cases e : i = s.2.2.1.toNatClampNeg
    · rw [if_pos e, if_pos e]
      exact ⟨b, rfl, R _ _ hb⟩
    · rw [if_neg e, if_neg e]
      exact (k2 i (by omega)).imp fun c z => ⟨z.1, R _ _ z.2⟩
theorem o12 : Int32.ofNat 12 = 12 := rfl
theorem i12n : ¬ (12 : Int32) < 12 := by decide
set_option maxHeartbeats 4000000 in
theorem fX1_lay {s : AS} {a0 : Int32} (hC : CS g w0 x nA cA lA kn s w) (hX : ¬ okC a0 → (Q (.inr "java/lang/IndexOutOfBoundsException") w)) (hS : okC a0 → s.2.1 a0.toNatClampNeg = none → (Q (.inr "java/lang/IllegalStateException") w)) (hF : okC a0 → ∀ r, s.2.1 a0.toNatClampNeg = some r → ¬ s.2.2.1 < 12 → ∀ w', CS g w0 x nA cA lA kn (sRf s) w' → Q (.inl (some (.int (-9)))) w') (hQ : okC a0 → ∀ r, s.2.1 a0.toNatClampNeg = some r → s.2.2.1 < 12 → ∀ w', CS g w0 x nA cA lA kn (sP_ s (s.2.2.1 + 1) (va_up s.2.2.2.1 s.2.2.1.toNatClampNeg r)) w' → Q (.inl (some (.int (s.2.2.1 + 1)))) w') : WP (MX1_lay g) Q (0, [some (.ref x), some (.int a0), none], [], w, 0, 0) := by
  obtain ⟨gc, gl, ⟨hx, hn, hc, hl, hgc, hgl, hn0, hn1, rx, rn, rc, rl, ⟨d1, d2, d3, d4, d5, d6⟩, ⟨d7, d8, d9, d10, d11, d12⟩⟩, hcd, hpl⟩ := hC.1.opn g
  simp only [eX1_lay_0, rx, go_s, wt_nil, true_and, Nat.zero_add]
  with_reducible refine And.intro ?_ ?_
  omega
  with_reducible refine And.intro ?_ ?_
  omega
  with_reducible refine And.intro ?_ ?_
  omega
  with_reducible refine fX1_rangeOf (a0 := a0) hC (fun _ => ?_) (fun k0 e1 => ?_) (fun k0 p r e1 hp => ?_)
  simp only [kx_r]
  with_reducible exact hX (by assumption)
  simp only [kx_r]
  with_reducible exact hS k0 e1
  simp only [eX1_lay_5, eX1_lay_10, eX1_lay_13, eX1_lay_17, eX1_lay_21, eX1_lay_22, eX1_lay_25, eX1_lay_30, eX1_lay_34, eX1_lay_38, eX1_lay_40, eX1_lay_45, eX1_lay_50, eX1_lay_54, not_false_eq_true, rx, rl, hx, hl, d3, rd_n, upw_n, exal, o12, n45, or_false, false_and, kx_l, go_s, gq_s, wt_nil, nl_int, tl_s, g0, gS, ex1, nf_i, true_and, List.set_cons_zero, List.set_cons_succ, List.length_cons, List.length_nil, rd_s, ne_eq, not_false_eq_true, Nat.zero_add, Nat.add_zero]
  split
  with_reducible refine And.intro ?_ ?_
  with_reducible exact absurd (by assumption) hn0
  with_reducible refine And.intro ?_ ?_
  with_reducible exact absurd (by assumption) hn0
  with_reducible refine And.intro ?_ ?_
  with_reducible exact absurd (by assumption) hn0
  with_reducible exact absurd (by assumption) hn0
  with_reducible refine And.intro ?_ ?_
  omega
  split
  with_reducible refine And.intro ?_ ?_
  with_reducible exact vpi12 hn0 (by assumption) i12n
  with_reducible refine And.intro ?_ ?_
  with_reducible exact go_Fw hp trivial
  with_reducible refine And.intro ?_ ?_
  omega
  with_reducible refine And.intro ?_ ?_
  omega
  with_reducible refine And.intro ?_ ?_
  omega
  ((with_reducible refine isQ (Q := Q) ?_); exact hQ k0 r e1 (by assumption) _ (hC.lay hl hp (by assumption)))
  with_reducible refine And.intro ?_ ?_
  omega
  with_reducible refine And.intro ?_ ?_
  omega
  with_reducible refine And.intro ?_ ?_
  omega
  with_reducible refine fX1_refuse hC (fun w1 g1 g2 => ?_)
  simp only [eX1_lay_29, kx_l, tl_s]
  with_reducible refine And.intro ?_ ?_
  omega
  with_reducible refine And.intro ?_ ?_
  omega
  with_reducible exact hF k0 r e1 (by assumption) w1 g1
end
end
/-! 71.fn9.lean.txt -/
section
section
variable {g : RO} {Q : Ot → Hw → Prop} {w0 w : Hw} {x nA cA lA : Nat} {kn : Int32}
abbrev okP (n a : Int32) : Prop := ¬ a < 0 ∧ a < n
theorem plB {n a : Int32} (h : okP n a) : (a.toNatClampNeg : Int) < n.toInt := by
  have h1 := i32_0 h.1
  have h2 := i32_lt h.2
  have e : a.toNatClampNeg = a.toInt.toNat := rfl
  omega
theorem plj {gl : Nat → Option Nat} {f : Nat → R4} {n : Int} {j b : Nat} (hpl : ∀ i : Nat, (i : Int) < n → ∃ b, gl i = some b ∧ rAt w b (f i)) (h : (j : Int) < n) (e : gl j = some b) : rAt w b (f j) := by
  obtain ⟨c, hc, hr⟩ := hpl j h
  rw [hc] at e
  cases e
  exact hr
theorem pln {gl : Nat → Option Nat} {f : Nat → R4} {n : Int} {j : Nat} (hpl : ∀ i : Nat, (i : Int) < n → ∃ b, gl i = some b ∧ rAt w b (f i)) (h : (j : Int) < n) : ¬ gl j = none := by
  obtain ⟨c, hc, hr⟩ := hpl j h
  rw [hc]
  exact fun z => by cases z
theorem cntE {n : Int32} (h0 : ¬ n < 0) (h1 : ¬ 12 < n) : Int32.ofNat n.toInt.toNat = n := by
  obtain ⟨h2, h3⟩ := cnt12 h0 h1
  exact Int32.toInt_inj.1 (by rw [oNt (by omega)]; omega)
theorem oMz : Int32.ofNat 0 - 1 < 0 := by decide
theorem oMd {j : Nat} : Int32.ofNat j + -1 = Int32.ofNat j - 1 := (Int32.sub_eq_add_neg _ _).symm
theorem oMs {j : Nat} (h : j + 1 < 1000) : Int32.ofNat (j + 1) - 1 = Int32.ofNat j := by
  refine Int32.toInt_inj.1 ?_
  have e1 : (1 : Int32).toInt = 1 := rfl
  have a1 := oNt h
  have a2 := oNt (j := j) (by omega)
  rw [i32_sub (by rw [a1, e1]; omega) (by rw [a1, e1]; omega), a1, a2, e1]
  omega
theorem vX0_matches {p q : Nat} {r s : R4} (hp : rAt w p r) (hq : rAt w q s) (hQ : Q (.inl (some (.int (bI (decide (mP r s)))))) w) : WP (MX0_matches g) Q (0, [some (.ref p), some (.ref q)], [], w, 0, 0) := fX0_matchesR hp hq (fun h => by rw [decide_eq_true h] at hQ; exact hQ) (fun h => by rw [decide_eq_false h] at hQ; exact hQ)
set_option maxHeartbeats 4000000 in
theorem fX1_needPlace {s : AS} {a0 : Int32} (hC : CS g w0 x nA cA lA kn s w) (hX : ¬ okP s.2.2.1 a0 → (Q (.inr "java/lang/IndexOutOfBoundsException") w)) (hQ : okP s.2.2.1 a0 → Q (.inl none) w) : WP (MX1_needPlace g) Q (0, [some (.ref x), some (.int a0)], [], w, 0, 0) := by
  obtain ⟨gc, gl, ⟨hx, hn, hc, hl, hgc, hgl, hn0, hn1, rx, rn, rc, rl, ⟨d1, d2, d3, d4, d5, d6⟩, ⟨d7, d8, d9, d10, d11, d12⟩⟩, hcd, hpl⟩ := hC.1.opn g
  simp only [eX1_needPlace_0, eX1_needPlace_4, eX1_needPlace_9, eX1_needPlace_12, eX1_needPlace_22, rx, go_s, wt_nil, g0, gS, ex1, Nat.zero_add]
  split
  with_reducible refine And.intro ?_ ?_
  omega
  with_reducible refine And.intro ?_ ?_
  omega
  with_reducible refine And.intro ?_ ?_
  omega
  with_reducible refine And.intro ?_ ?_
  omega
  with_reducible exact hX (fun h => absurd (by assumption) h.1)
  split
  with_reducible refine And.intro ?_ ?_
  omega
  with_reducible refine And.intro ?_ ?_
  omega
  with_reducible exact hQ ⟨by assumption, by assumption⟩
  with_reducible refine And.intro ?_ ?_
  omega
  with_reducible refine And.intro ?_ ?_
  omega
  with_reducible refine And.intro ?_ ?_
  omega
  with_reducible refine And.intro ?_ ?_
  omega
  with_reducible exact hX (fun h => absurd h.2 (by assumption))
set_option maxHeartbeats 4000000 in
theorem fX1_pick {s : AS} {a0 a1 : Int32} (hC : CS g w0 x nA cA lA kn s w) (hX : ¬ (okP s.2.2.1 a0 ∧ okC a1) → (Q (.inr "java/lang/IndexOutOfBoundsException") w)) (hN : okP s.2.2.1 a0 → okC a1 → s.2.1 a1.toNatClampNeg = none → ∀ w', CS g w0 x nA cA lA kn (sC s (va_up s.2.1 a1.toNatClampNeg (some (s.2.2.2.1 a0.toNatClampNeg)))) w' → Q (.inl (some (.int 0))) w') (hS : okP s.2.2.1 a0 → okC a1 → ∀ r, s.2.1 a1.toNatClampNeg = some r → ∀ w', CS g w0 x nA cA lA kn (sC s (va_up s.2.1 a1.toNatClampNeg (some (s.2.2.2.1 a0.toNatClampNeg)))) w' → Q (.inl (some (.int 1))) w') : WP (MX1_pick g) Q (0, [some (.ref x), some (.int a0), some (.int a1), none], [], w, 0, 0) := by
  obtain ⟨gc, gl, ⟨hx, hn, hc, hl, hgc, hgl, hn0, hn1, rx, rn, rc, rl, ⟨d1, d2, d3, d4, d5, d6⟩, ⟨d7, d8, d9, d10, d11, d12⟩⟩, hcd, hpl⟩ := hC.1.opn g
  simp only [eX1_pick_0, eX1_pick_5, eX1_pick_9, eX1_pick_13, rx, go_s, wt_nil, true_and, Nat.zero_add]
  with_reducible refine And.intro ?_ ?_
  omega
  with_reducible refine And.intro ?_ ?_
  omega
  with_reducible refine And.intro ?_ ?_
  omega
  with_reducible refine fX1_needPlace (a0 := a0) hC (fun _ => ?_) (fun k0 => ?_)
  simp only [kx_r]
  with_reducible exact hX (fun h => absurd h.1 (by assumption))
  simp only [kx_l, wt_nil, tl_n]
  with_reducible refine And.intro ?_ ?_
  omega
  with_reducible refine And.intro ?_ ?_
  omega
  with_reducible refine And.intro ?_ ?_
  omega
  with_reducible refine fX1_needCard (a0 := a1) (fun _ => ?_) (fun k1 => ?_)
  simp only [kx_r]
  with_reducible exact hX (fun h => absurd h.2 (by assumption))
  simp only [eX1_pick_14, eX1_pick_15R, eX1_pick_15N, eX1_pick_18, eX1_pick_22, eX1_pick_23, rx, rc, n45, or_false, kx_l, go_s, gq_s, wt_nil, rf_st, tl_n, g0, gS, ex1, true_and, Nat.add_zero]
  with_reducible refine And.intro ?_ ?_
  with_reducible exact vpi6 k1.1 k1.2
  with_reducible refine And.intro ?_ ?_
  with_reducible intro _
  with_reducible refine And.intro ?_ ?_
  omega
  with_reducible refine And.intro ?_ ?_
  omega
  with_reducible refine And.intro ?_ ?_
  omega
  with_reducible refine fX1_asNumber (Or.inl rfl) ?_
  simp only [eX1_pick_26, eX1_pick_31, eX1_pick_36, eX1_pick_38N, eX1_pick_38R, eX1_pick_39, rx, rl, hc, n45, or_false, false_and, kx_l, go_s, gq_s, nl_int, rf_st, tl_s, g0, gS, ex1, true_and]
  with_reducible refine And.intro ?_ ?_
  with_reducible exact vpi12 k0.1 k0.2 hn1
  with_reducible refine And.intro ?_ ?_
  with_reducible intro _
  with_reducible refine And.intro ?_ ?_
  with_reducible exact vpi6 k1.1 k1.2
  with_reducible refine And.intro ?_ ?_
  with_reducible exact absurd (by assumption) (pln hpl (plB k0))
  with_reducible refine And.intro ?_ ?_
  with_reducible exact absurd (by assumption) (pln hpl (plB k0))
  with_reducible exact absurd (by assumption) (pln hpl (plB k0))
  with_reducible intro _
  with_reducible intro _
  with_reducible refine And.intro ?_ ?_
  with_reducible exact vpi6 k1.1 k1.2
  with_reducible refine And.intro ?_ ?_
  with_reducible exact go_Fw (plj hpl (plB k0) (by assumption)) trivial
  with_reducible refine And.intro ?_ ?_
  omega
  with_reducible refine And.intro ?_ ?_
  omega
  ((with_reducible refine isQ (Q := Q) ?_); exact hN k0 k1 (cdN hcd k1 (by assumption)) _ (hC.card gc hc a1.toNatClampNeg (some _) (some _) (plj hpl (plB k0) (by assumption))))
  with_reducible intro _
  with_reducible intro _
  with_reducible refine And.intro ?_ ?_
  omega
  with_reducible refine And.intro ?_ ?_
  omega
  with_reducible refine And.intro ?_ ?_
  omega
  with_reducible refine fX1_asNumber (Or.inr rfl) ?_
  simp only [eX1_pick_26, eX1_pick_31, eX1_pick_36, eX1_pick_38N, eX1_pick_38R, eX1_pick_39, rx, rl, hc, n45, or_false, false_and, kx_l, go_s, gq_s, nl_int, rf_st, tl_s, g0, gS, ex1, true_and]
  with_reducible refine And.intro ?_ ?_
  with_reducible exact vpi12 k0.1 k0.2 hn1
  with_reducible refine And.intro ?_ ?_
  with_reducible intro _
  with_reducible refine And.intro ?_ ?_
  with_reducible exact vpi6 k1.1 k1.2
  with_reducible refine And.intro ?_ ?_
  with_reducible exact absurd (by assumption) (pln hpl (plB k0))
  with_reducible refine And.intro ?_ ?_
  with_reducible exact absurd (by assumption) (pln hpl (plB k0))
  with_reducible exact absurd (by assumption) (pln hpl (plB k0))
  with_reducible intro _
  with_reducible intro _
  with_reducible refine And.intro ?_ ?_
  with_reducible exact vpi6 k1.1 k1.2
  with_reducible refine And.intro ?_ ?_
  with_reducible exact go_Fw (plj hpl (plB k0) (by assumption)) trivial
  with_reducible refine And.intro ?_ ?_
  omega
  with_reducible refine And.intro ?_ ?_
  omega
  ((with_reducible refine isQ (Q := Q) ?_); exact (cdS hcd k1 (by assumption)).elim (fun r h => hS k0 k1 r h.1 _ (hC.card gc hc a1.toNatClampNeg (some _) (some _) (plj hpl (plB k0) (by assumption)))))
set_option maxHeartbeats 4000000 in
theorem flX1_timesLaid_4 {s : AS} {p : Nat} {r : R4} (hC : CS g w0 x nA cA lA kn s w) (hp : rAt w p r) (hQ : Q (.inl (some (.int (fsum (fun j => bI (decide (mP r (s.2.2.2.1 j)))) s.2.2.1.toInt.toNat)))) w) : ∀ (d j : Nat)  (k m : Nat), j + d = s.2.2.1.toInt.toNat → k ≤ 0 → m ≤ 0 → WP (MX1_timesLaid g) Q (4, [some (.ref x), some (.ref p), some (.int (fsum (fun j => bI (decide (mP r (s.2.2.2.1 j)))) j)), some (.int (Int32.ofNat j))], [], w, k, m) := by
  obtain ⟨gc, gl, ⟨hx, hn, hc, hl, hgc, hgl, hn0, hn1, rx, rn, rc, rl, ⟨d1, d2, d3, d4, d5, d6⟩, ⟨d7, d8, d9, d10, d11, d12⟩⟩, hcd, hpl⟩ := hC.1.opn g
  intro d
  induction d with
  | zero =>
    intro j  k m hjd hk hm
    have h9 : j < 1000 := (by have := (cnt12 hn0 hn1).2; omega)
    have hlt : ¬ Int32.ofNat j < s.2.2.1 := oNg (B := s.2.2.1.toInt.toNat) h9 (cnt12 hn0 hn1).1 (by omega)
    have hnn := oN0 h9
    have hcl := oNc h9
    obtain rfl : j = s.2.2.1.toInt.toNat := by omega
    rw [eX1_timesLaid_4]
    simp only [eX1_timesLaid_5, eX1_timesLaid_9, eX1_timesLaid_12, eX1_timesLaid_18, eX1_timesLaid_20R, eX1_timesLaid_20N, eX1_timesLaid_34, if_false, hlt, hcl, rx, rl, ite_le, n45, or_false, go_s, gq_s, wt_nil, wt_int, rf_st, g0, gS, ex1, true_and, Nat.add_zero]
    with_reducible refine And.intro ?_ ?_
    with_reducible assumption
    with_reducible refine And.intro ?_ ?_
    with_reducible assumption
    with_reducible assumption
  | succ d ih =>
    intro j  k m hjd hk hm
    have h9 : j < 1000 := (by have := (cnt12 hn0 hn1).2; omega)
    have hlt : Int32.ofNat j < s.2.2.1 := oNl (B := s.2.2.1.toInt.toNat) h9 (cnt12 hn0 hn1).1 (by omega)
    have hnn := oN0 h9
    have hcl := oNc h9
    rw [eX1_timesLaid_4]
    simp only [eX1_timesLaid_5, eX1_timesLaid_9, eX1_timesLaid_12, eX1_timesLaid_18, eX1_timesLaid_20R, eX1_timesLaid_20N, eX1_timesLaid_34, if_true, hlt, hcl, rx, rl, ite_le, n45, or_false, go_s, gq_s, wt_nil, wt_int, rf_st, g0, gS, ex1, true_and, Nat.add_zero]
    with_reducible refine And.intro ?_ ?_
    with_reducible exact vpj (j := j) (by have := (cnt12 hn0 hn1).2; omega)
    with_reducible refine And.intro ?_ ?_
    with_reducible intro _
    with_reducible refine And.intro ?_ ?_
    with_reducible exact go_F hp trivial
    with_reducible refine And.intro ?_ ?_
    with_reducible exact absurd (by assumption) (pln (j := j) hpl (by omega))
    with_reducible refine And.intro ?_ ?_
    with_reducible assumption
    with_reducible refine And.intro ?_ ?_
    with_reducible assumption
    with_reducible exact absurd (by assumption) (pln (j := j) hpl (by omega))
    with_reducible intro _
    with_reducible intro _
    with_reducible refine And.intro ?_ ?_
    with_reducible exact go_F hp trivial
    with_reducible refine And.intro ?_ ?_
    omega
    with_reducible refine And.intro ?_ ?_
    with_reducible assumption
    with_reducible refine And.intro ?_ ?_
    with_reducible assumption
    with_reducible refine vX0_matches hp (plj (j := j) hpl (by omega) (by assumption)) ?_
    simp only [eX1_timesLaid_23, kx_l, wt_nil, wt_int, tl_s, Nat.add_zero]
    with_reducible refine And.intro ?_ ?_
    omega
    with_reducible refine And.intro ?_ ?_
    with_reducible assumption
    with_reducible refine And.intro ?_ ?_
    with_reducible assumption
    with_reducible refine fX1_asNumber (bI01 _) ?_
    simp only [eX1_timesLaid_26, kx_l, nl_int, nl_ref, tl_s]
    (rw [oN1]; exact ih (j + 1)  _ _ (by omega) (by first | assumption | omega) (by first | assumption | omega))
set_option maxHeartbeats 4000000 in
theorem fX1_timesLaid {s : AS} {p : Nat} {r : R4} (hC : CS g w0 x nA cA lA kn s w) (hp : rAt w p r) (hQ : Q (.inl (some (.int (fsum (fun j => bI (decide (mP r (s.2.2.2.1 j)))) s.2.2.1.toInt.toNat)))) w) : WP (MX1_timesLaid g) Q (0, [some (.ref x), some (.ref p), none, none], [], w, 0, 0) := by
  simp only [eX1_timesLaid_0, nl_int, nl_ref]
  ((with_reducible refine isWP (pc := 4) ?_); exact flX1_timesLaid_4 hC hp hQ _ 0 _ _ (Nat.zero_add _) (by decide) (by decide))
set_option maxHeartbeats 4000000 in
theorem fX1_howOften {s : AS} {a0 : Int32} (hC : CS g w0 x nA cA lA kn s w) (hX : ¬ okC a0 → (Q (.inr "java/lang/IndexOutOfBoundsException") w)) (hS : okC a0 → s.2.1 a0.toNatClampNeg = none → (Q (.inr "java/lang/IllegalStateException") w)) (hQ : okC a0 → ∀ r, s.2.1 a0.toNatClampNeg = some r → Q (.inl (some (.int (fsum (fun j => bI (decide (mP r (s.2.2.2.1 j)))) s.2.2.1.toInt.toNat)))) w) : WP (MX1_howOften g) Q (0, [some (.ref x), some (.int a0)], [], w, 0, 0) := by
  obtain ⟨gc, gl, ⟨hx, hn, hc, hl, hgc, hgl, hn0, hn1, rx, rn, rc, rl, ⟨d1, d2, d3, d4, d5, d6⟩, ⟨d7, d8, d9, d10, d11, d12⟩⟩, hcd, hpl⟩ := hC.1.opn g
  simp only [eX1_howOften_0, rx, go_s, wt_nil, wt_ref, true_and, Nat.zero_add, Nat.add_zero]
  with_reducible refine And.intro ?_ ?_
  omega
  with_reducible refine And.intro ?_ ?_
  omega
  with_reducible refine And.intro ?_ ?_
  omega
  with_reducible refine fX1_rangeOf (a0 := a0) hC (fun _ => ?_) (fun k0 e1 => ?_) (fun k0 p r e1 hp => ?_)
  simp only [kx_r]
  with_reducible exact hX (by assumption)
  simp only [kx_r]
  with_reducible exact hS k0 e1
  simp only [eX1_howOften_6R, rx, kx_l, go_s, wt_nil, tl_s, true_and, Nat.add_zero]
  with_reducible refine And.intro ?_ ?_
  omega
  with_reducible refine And.intro ?_ ?_
  omega
  with_reducible refine And.intro ?_ ?_
  omega
  with_reducible refine fX1_timesLaid hC hp ?_
  simp only [eX1_howOften_9, kx_l, tl_s]
  with_reducible refine And.intro ?_ ?_
  omega
  with_reducible refine And.intro ?_ ?_
  omega
  with_reducible exact hQ k0 r e1
theorem inv_d {P : Nat → Prop} {j N : Nat} (h : ∀ i, j + 1 ≤ i → i < N → P i) (hj : P j) : ∀ i, j ≤ i → i < N → P i := fun i hi hN => by
  rcases Nat.eq_or_lt_of_le hi with rfl | k
  · exact hj
  · exact h i k hN
set_option maxHeartbeats 4000000 in
theorem flX1_lastPlaceOf_7 {s : AS} {p : Nat} {r : R4} (hC : CS g w0 x nA cA lA kn s w) (hp : rAt w p r) (hN : (∀ i, i < s.2.2.1.toInt.toNat → ¬ mP r (s.2.2.2.1 i)) → Q (.inl (some (.int (-1)))) w) (hS : ∀ i, i < s.2.2.1.toInt.toNat → mP r (s.2.2.2.1 i) → (∀ k, i + 1 ≤ k → k < s.2.2.1.toInt.toNat → ¬ mP r (s.2.2.2.1 k)) → Q (.inl (some (.int (Int32.ofNat i)))) w) : ∀ (j : Nat) (k m : Nat), j ≤ s.2.2.1.toInt.toNat → (∀ i, j ≤ i → i < s.2.2.1.toInt.toNat → ¬ mP r (s.2.2.2.1 i)) → k ≤ 0 → m ≤ 0 → WP (MX1_lastPlaceOf g) Q (7, [some (.ref x), some (.ref p), some (.int (Int32.ofNat j - 1))], [], w, k, m) := by
  obtain ⟨gc, gl, ⟨hx, hn, hc, hl, hgc, hgl, hn0, hn1, rx, rn, rc, rl, ⟨d1, d2, d3, d4, d5, d6⟩, ⟨d7, d8, d9, d10, d11, d12⟩⟩, hcd, hpl⟩ := hC.1.opn g
  obtain ⟨he, h12⟩ := cnt12 hn0 hn1
  intro j
  induction j with
  | zero =>
    intro k m hj hinv hk hm
    rw [eX1_lastPlaceOf_7]
    simp only [eX1_lastPlaceOf_8, eX1_lastPlaceOf_11, eX1_lastPlaceOf_16, eX1_lastPlaceOf_18R, eX1_lastPlaceOf_18N, eX1_lastPlaceOf_32, if_true, rx, rl, oMz, n45, or_false, go_s, gq_s, wt_nil, rf_st, g0, gS, ex1, true_and, Nat.add_zero]
    with_reducible refine And.intro ?_ ?_
    with_reducible assumption
    with_reducible refine And.intro ?_ ?_
    with_reducible assumption
    with_reducible exact hN (fun i h => hinv i (Nat.zero_le i) h)
  | succ j ih =>
    intro k m hj hinv hk hm
    have h9 : j < 1000 := by omega
    rw [oMs (j := j) (by omega), eX1_lastPlaceOf_7]
    have hlt := oN0 h9
    have hcl := oNc h9
    obtain ⟨b, hb, hrb⟩ := hpl j (by omega)
    simp only [eX1_lastPlaceOf_8, eX1_lastPlaceOf_11, eX1_lastPlaceOf_16, eX1_lastPlaceOf_18R, eX1_lastPlaceOf_18N, eX1_lastPlaceOf_32, if_false, rx, rl, hlt, hcl, hb, sal, snn, n45, or_false, go_s, gq_s, wt_nil, rf_st, g0, gS, ex1, true_and, Nat.add_zero]
    with_reducible refine And.intro ?_ ?_
    with_reducible exact vpj (by omega)
    with_reducible refine And.intro ?_ ?_
    with_reducible exact go_F hp trivial
    with_reducible refine And.intro ?_ ?_
    omega
    with_reducible refine And.intro ?_ ?_
    with_reducible assumption
    with_reducible refine And.intro ?_ ?_
    with_reducible assumption
    with_reducible refine fX0_matchesR hp hrb (fun hm => ?_) (fun hm => ?_)
    simp only [eX1_lastPlaceOf_21, eX1_lastPlaceOf_24, eX1_lastPlaceOf_26, i10, if_false, kx_l, nl_ref, tl_s]
    with_reducible refine And.intro ?_ ?_
    with_reducible assumption
    with_reducible refine And.intro ?_ ?_
    with_reducible assumption
    with_reducible exact hS j (by omega) hm hinv
    simp only [eX1_lastPlaceOf_21, eX1_lastPlaceOf_24, eX1_lastPlaceOf_26, if_true, kx_l, nl_ref, tl_s]
    (rw [oMd]; exact ih _ _ (by omega) (inv_d hinv hm) (by first | assumption | omega) (by first | assumption | omega))
set_option maxHeartbeats 4000000 in
theorem fX1_lastPlaceOf {s : AS} {p : Nat} {r : R4} (hC : CS g w0 x nA cA lA kn s w) (hp : rAt w p r) (hN : (∀ i, i < s.2.2.1.toInt.toNat → ¬ mP r (s.2.2.2.1 i)) → Q (.inl (some (.int (-1)))) w) (hS : ∀ i, i < s.2.2.1.toInt.toNat → mP r (s.2.2.2.1 i) → (∀ k, i + 1 ≤ k → k < s.2.2.1.toInt.toNat → ¬ mP r (s.2.2.2.1 k)) → Q (.inl (some (.int (Int32.ofNat i)))) w) : WP (MX1_lastPlaceOf g) Q (0, [some (.ref x), some (.ref p), none], [], w, 0, 0) := by
  obtain ⟨gc, gl, ⟨hx, hn, hc, hl, hgc, hgl, hn0, hn1, rx, rn, rc, rl, ⟨d1, d2, d3, d4, d5, d6⟩, ⟨d7, d8, d9, d10, d11, d12⟩⟩, hcd, hpl⟩ := hC.1.opn g
  simp only [eX1_lastPlaceOf_0, eX1_lastPlaceOf_4, rx, go_s, nl_ref, g0, gS, ex1]
  (have z := flX1_lastPlaceOf_7 hC hp hN hS _ 0 0 (Nat.le_refl _) (fun i h1 h2 => absurd h2 (Nat.not_lt.mpr h1)) (by decide) (by decide); rw [cntE hn0 hn1] at z; exact z)
set_option maxHeartbeats 4000000 in
theorem fX1_seek {s : AS} {a0 a1 : Int32} (hC : CS g w0 x nA cA lA kn s w) (hX : ¬ okC a0 → (Q (.inr "java/lang/IndexOutOfBoundsException") w)) (hS : okC a0 → s.2.1 a0.toNatClampNeg = none → (Q (.inr "java/lang/IllegalStateException") w)) (hN : okC a0 → ∀ r, s.2.1 a0.toNatClampNeg = some r → (∀ i, i < s.2.2.1.toInt.toNat → ¬ mP r (s.2.2.2.1 i)) → Q (.inl (some (.int (-1)))) w) (hF : a1 = 0 → okC a0 → ∀ r, s.2.1 a0.toNatClampNeg = some r → ∀ i, i < s.2.2.1.toInt.toNat → mP r (s.2.2.2.1 i) → (∀ k, k < i → ¬ mP r (s.2.2.2.1 k)) → Q (.inl (some (.int (Int32.ofNat i)))) w) (hL : ¬ a1 = 0 → okC a0 → ∀ r, s.2.1 a0.toNatClampNeg = some r → ∀ i, i < s.2.2.1.toInt.toNat → mP r (s.2.2.2.1 i) → (∀ k, i + 1 ≤ k → k < s.2.2.1.toInt.toNat → ¬ mP r (s.2.2.2.1 k)) → Q (.inl (some (.int (Int32.ofNat i)))) w) : WP (MX1_seek g) Q (0, [some (.ref x), some (.int a0), some (.int a1), none], [], w, 0, 0) := by
  obtain ⟨gc, gl, ⟨hx, hn, hc, hl, hgc, hgl, hn0, hn1, rx, rn, rc, rl, ⟨d1, d2, d3, d4, d5, d6⟩, ⟨d7, d8, d9, d10, d11, d12⟩⟩, hcd, hpl⟩ := hC.1.opn g
  simp only [eX1_seek_0, rx, go_s, wt_nil, true_and, Nat.zero_add]
  with_reducible refine And.intro ?_ ?_
  omega
  with_reducible refine And.intro ?_ ?_
  omega
  with_reducible refine And.intro ?_ ?_
  omega
  with_reducible refine fX1_rangeOf (a0 := a0) hC (fun _ => ?_) (fun k0 e1 => ?_) (fun k0 p r e1 hp => ?_)
  simp only [kx_r]
  with_reducible exact hX (by assumption)
  simp only [kx_r]
  with_reducible exact hS k0 e1
  simp only [eX1_seek_5, eX1_seek_6, eX1_seek_10, eX1_seek_15, eX1_seek_18, rx, kx_l, go_s, wt_nil, nl_int, tl_s, true_and, Nat.add_zero]
  split
  with_reducible refine And.intro ?_ ?_
  omega
  with_reducible refine And.intro ?_ ?_
  omega
  with_reducible refine And.intro ?_ ?_
  omega
  with_reducible refine fX1_firstPlaceOf hC hp (fun z1 => ?_) (fun i z1 z2 z3 => ?_)
  simp only [eX1_seek_23, kx_l, tl_s]
  with_reducible refine And.intro ?_ ?_
  omega
  with_reducible refine And.intro ?_ ?_
  omega
  with_reducible exact hN k0 r e1 z1
  simp only [eX1_seek_23, kx_l, tl_s]
  with_reducible refine And.intro ?_ ?_
  omega
  with_reducible refine And.intro ?_ ?_
  omega
  with_reducible exact hF (by assumption) k0 r e1 i z1 z2 z3
  with_reducible refine And.intro ?_ ?_
  omega
  with_reducible refine And.intro ?_ ?_
  omega
  with_reducible refine And.intro ?_ ?_
  omega
  with_reducible refine fX1_lastPlaceOf hC hp (fun z1 => ?_) (fun i z1 z2 z3 => ?_)
  simp only [eX1_seek_23, kx_l, tl_s]
  with_reducible refine And.intro ?_ ?_
  omega
  with_reducible refine And.intro ?_ ?_
  omega
  with_reducible exact hN k0 r e1 z1
  simp only [eX1_seek_23, kx_l, tl_s]
  with_reducible refine And.intro ?_ ?_
  omega
  with_reducible refine And.intro ?_ ?_
  omega
  with_reducible exact hL (by assumption) k0 r e1 i z1 z2 z3
end
end
/-! 71.fna.lean.txt -/
section
section
variable {g : RO} {Q : Ot → Hw → Prop} {w0 w : Hw} {x nA cA lA : Nat} {kn : Int32}
theorem CS.opnP {s : AS} {n : Int32} {F : Nat → R4} (h : CS g w0 x nA cA lA kn (sP_ s n F) w) : ∃ gc gl : Nat → Option Nat, RO5 g w x nA cA lA n s.2.2.2.2.1 kn s.2.2.2.2.2 s.1 gc gl ∧ (∀ i, i < 6 → cM w (gc i) (s.2.1 i)) ∧ ∀ i : Nat, (i : Int) < n.toInt → ∃ b, gl i = some b ∧ rAt w b (F i) := h.1.opn g
theorem CS.pcg {s : AS} {n : Int32} {F G : Nat → R4} (h : CS g w0 x nA cA lA kn (sP_ s n F) w) (e : ∀ i : Nat, (i : Int) < n.toInt → F i = G i) : CS g w0 x nA cA lA kn (sP_ s n G) w := by
  obtain ⟨⟨gc, gl, h1, k1, k2⟩, hf⟩ := h
  exact ⟨⟨gc, gl, h1, k1, fun i hi => by
    obtain ⟨b, z1, z2⟩ := k2 i hi
    have z3 : rAt w b (F i) := z2
    rw [e i hi] at z3
    exact ⟨b, z1, z3⟩⟩, hf⟩
/-- the laid row gets another content -/
theorem CS.ll {s : AS} {gl gl' : Nat → Option Nat} {F : Nat → R4} (h : CS g w0 x nA cA lA kn s w) (hl : w lA = some (.inl (4, 12, qc gl))) (h6 : ∀ i c, gl' i = some c → isR w c) (k : ∀ i : Nat, (i : Int) < s.2.2.1.toInt → ∃ c, gl' i = some c ∧ rAt w c (F i)) : CS g w0 x nA cA lA kn (sP_ s s.2.2.1 F) (upw w lA (.inl (4, 12, qc gl'))) := by
  obtain ⟨gc, gl0, ⟨h1, h2, h3, h4, h5, -, h7, h8, -, -, -, -, ⟨d1, d2, d3, d4, d5, d6⟩, ⟨d7, d8, d9, d10, d11, d12⟩⟩, k1, k2⟩ := h.1.opn (fun _ => .null, fun _ => none)
  exact ⟨⟨gc, gl', ⟨by rw [upw_n d3]; exact h1, by rw [upw_n d6]; exact h2, by rw [upw_n d9]; exact h3, upw_s _ _ _, fun i b z => isR_up2 (h5 i b z) hl (by simp), fun i b z => isR_up2 (h6 i b z) hl (by simp), h7, h8⟩, fun i hi => (k1 i hi).mp fun b r hb => rAt_up2 hb hl (by simp), fun i hi => (k i hi).imp fun b z => ⟨z.1, rAt_up2 z.2 hl (by simp)⟩⟩, h.2.up hl (Or.inr rfl)⟩
/-- the laid row and how many are laid -/
theorem CS.xl {s : AS} {gl gl' : Nat → Option Nat} {F : Nat → R4} {n' : Int32} (h : CS g w0 x nA cA lA kn s w) (hl : w lA = some (.inl (4, 12, qc gl))) (h6 : ∀ i c, gl' i = some c → isR w c) (h7 : ¬ n' < 0) (h8 : ¬ 12 < n') (k : ∀ i : Nat, (i : Int) < n'.toInt → ∃ c, gl' i = some c ∧ rAt w c (F i)) : CS g w0 x nA cA lA kn (sP_ s n' F) (upw (upw w x (.inr (5, [.ref nA, .ref cA, .ref lA, .int n', .int s.2.2.2.2.1, .int kn, .int s.2.2.2.2.2]))) lA (.inl (4, 12, qc gl'))) := by
  obtain ⟨gc, gl0, ⟨h1, h2, h3, h4, h5, -, -, -, -, -, -, -, ⟨d1, d2, d3, d4, d5, d6⟩, ⟨d7, d8, d9, d10, d11, d12⟩⟩, k1, k2⟩ := h.1.opn (fun _ => .null, fun _ => none)
  have hl' : upw w x (.inr (5, [.ref nA, .ref cA, .ref lA, .int n', .int s.2.2.2.2.1, .int kn, .int s.2.2.2.2.2])) lA = some (.inl (4, 12, qc gl)) := by rw [upw_n d10]; exact hl
  have R : ∀ c q, rAt w c q → rAt (upw (upw w x (.inr (5, [.ref nA, .ref cA, .ref lA, .int n', .int s.2.2.2.2.1, .int kn, .int s.2.2.2.2.2]))) lA (.inl (4, 12, qc gl'))) c q := fun c q hc => rAt_up2 (rAt_up2 hc h1 (by simp)) hl' (by simp)
  have RR : ∀ c, isR w c → isR (upw (upw w x (.inr (5, [.ref nA, .ref cA, .ref lA, .int n', .int s.2.2.2.2.1, .int kn, .int s.2.2.2.2.2]))) lA (.inl (4, 12, qc gl'))) c := fun c hc => isR_up2 (isR_up2 hc h1 (by simp)) hl' (by simp)
  exact ⟨⟨gc, gl', ⟨by rw [upw_n d3]; exact upw_s _ _ _, by rw [upw_n d6, upw_n d4]; exact h2, by rw [upw_n d9, upw_n d7]; exact h3, upw_s _ _ _, fun i b z => RR b (h5 i b z), fun i b z => RR b (h6 i b z), h7, h8⟩, fun i hi => (k1 i hi).mp R, fun i hi => (k i hi).imp fun b z => ⟨z.1, R _ _ z.2⟩⟩, (h.2.up h1 (Or.inr rfl)).up hl' (Or.inr rfl)⟩
theorem CS.laid {s : AS} {gl : Nat → Option Nat} {b : Nat} {r : R4} (h : CS g w0 x nA cA lA kn s w) (hl : w lA = some (.inl (4, 12, qc gl))) (hgl : ∀ i c, gl i = some c → isR w c) (k : ∀ i : Nat, (i : Int) < s.2.2.1.toInt → ∃ c, gl i = some c ∧ rAt w c (s.2.2.2.1 i)) (hb : rAt w b r) (j : Nat) : CS g w0 x nA cA lA kn (sP_ s s.2.2.1 (va_up s.2.2.2.1 j r)) (upw w lA (.inl (4, 12, qc (va_up gl j (some b))))) := by
  refine h.ll hl (up_ok hgl fun c e => by cases e; exact hb.isR) fun i hi => ?_
  unfold va_up
  by_cases e : i = j
  · rw [if_pos e, if_pos e]
    exact ⟨b, rfl, hb⟩
  · rw [if_neg e, if_neg e]
    exact k i hi
/-- the pile with the gap at p closed up to e -/
def shf (f : Nat → R4) (p e : Nat) : Nat → R4 := fun i => if p ≤ i ∧ i < e then f (i + 1) else f i
/-- the pile without the place p -/
def rmv (f : Nat → R4) (p : Nat) : Nat → R4 := fun i => if i < p then f i else f (i + 1)
theorem shf_0 {f : Nat → R4} {p : Nat} : shf f p p = f := funext fun i => if_neg (by omega)
theorem shf_s {f : Nat → R4} {p e : Nat} (h : p ≤ e) : va_up (shf f p e) e (shf f p e (e + 1)) = shf f p (e + 1) := funext fun i => by
  unfold va_up shf
  by_cases k : i = e
  · subst k
    rw [if_pos rfl, if_neg (by omega), if_pos (by omega)]
  · rw [if_neg k]
    by_cases z : p ≤ i ∧ i < e
    · rw [if_pos z, if_pos (by omega)]
    · rw [if_neg z, if_neg (by omega)]
theorem shf_r {f : Nat → R4} {p e i : Nat} (h : i < e) : shf f p e i = rmv f p i := by
  unfold shf rmv
  by_cases z : i < p
  · rw [if_neg (by omega), if_pos z]
  · rw [if_pos (by omega), if_neg z]
theorem CS.gapS {s : AS} {n : Int32} {f : Nat → R4} {p e b : Nat} {gl : Nat → Option Nat} (h : CS g w0 x nA cA lA kn (sP_ s n (shf f p e)) w) (hl : w lA = some (.inl (4, 12, qc gl))) (hgl : ∀ i c, gl i = some c → isR w c) (k : ∀ i : Nat, (i : Int) < n.toInt → ∃ c, gl i = some c ∧ rAt w c (shf f p e i)) (hb : rAt w b (shf f p e (e + 1))) (hpe : p ≤ e) : CS g w0 x nA cA lA kn (sP_ s n (shf f p (e + 1))) (upw w lA (.inl (4, 12, qc (va_up gl e (some b))))) := by
  have z : CS g w0 x nA cA lA kn (sP_ s n (va_up (shf f p e) e (shf f p e (e + 1)))) (upw w lA (.inl (4, 12, qc (va_up gl e (some b))))) := CS.laid h hl hgl k hb e
  rw [shf_s hpe] at z
  exact z
theorem CS.gapE {s : AS} {n : Int32} {f : Nat → R4} {p e : Nat} {gl : Nat → Option Nat} (h : CS g w0 x nA cA lA kn (sP_ s n (shf f p e)) w) (hl : w lA = some (.inl (4, 12, qc gl))) (hgl : ∀ i c, gl i = some c → isR w c) (k : ∀ i : Nat, (i : Int) < n.toInt → ∃ c, gl i = some c ∧ rAt w c (shf f p e i)) (h0 : 0 < n) (h8 : ¬ 12 < n) (he : n.toInt = ((e + 1 : Nat) : Int)) : CS g w0 x nA cA lA kn (sP_ s (n - 1) (rmv f p)) (upw (upw w x (.inr (5, [.ref nA, .ref cA, .ref lA, .int (n - 1), .int s.2.2.2.2.1, .int kn, .int s.2.2.2.2.2]))) lA (.inl (4, 12, qc (va_up gl (n - 1).toNatClampNeg none)))) := by
  have e1 := cg_sub h0
  have e2 : (n - 1).toNatClampNeg = (n - 1).toInt.toNat := rfl
  refine CS.xl (s := sP_ s n (shf f p e)) (F := rmv f p) h hl (up_ok hgl fun c e => by cases e) (cg3 h0) (cg4 h0 h8) fun i hi => ?_
  rw [show va_up gl (n - 1).toNatClampNeg none i = gl i from if_neg (by omega), ← shf_r (f := f) (p := p) (e := e) (i := i) (by omega)]
  exact k i (by omega)
set_option maxHeartbeats 4000000 in
theorem flX1_closeGap_4 {s : AS} {a0 : Int32} {f : Nat → R4} {n : Int32} {p N : Nat} (he : n.toInt = (N : Int)) (h12 : N ≤ 12) (hp0 : 0 < n) (hQ : ∀ w', CS g w0 x nA cA lA kn (sP_ s (n - 1) (rmv f p)) w' → Q (.inl none) w') : ∀ (d e : Nat) (w : Hw) (k m : Nat), e + 1 + d = N → p ≤ e → CS g w0 x nA cA lA kn (sP_ s n (shf f p e)) w → k ≤ 0 → m ≤ 0 → WP (MX1_closeGap g) Q (4, [some (.ref x), some (.int a0), some (.int (Int32.ofNat (e + 1)))], [], w, k, m) := by
  intro d
  induction d with
  | zero =>
    intro e w k m hjd hpe hC hk hm
    obtain ⟨gc, gl, ⟨hx, hn, hc, hl, hgc, hgl, hn0, hn1, rx, rn, rc, rl, ⟨d1, d2, d3, d4, d5, d6⟩, ⟨d7, d8, d9, d10, d11, d12⟩⟩, hcd, hpl⟩ := hC.opnP
    have h9 : e + 1 < 1000 := by omega
    have hlt : ¬ Int32.ofNat (e + 1) < n := oNg h9 he (by omega)
    rw [eX1_closeGap_4]
    simp only [eX1_closeGap_5, eX1_closeGap_9, eX1_closeGap_12, eX1_closeGap_16, eX1_closeGap_23, eX1_closeGap_25N, eX1_closeGap_25R, eX1_closeGap_26, eX1_closeGap_32, eX1_closeGap_37, eX1_closeGap_42, eX1_closeGap_46, eX1_closeGap_50, eX1_closeGap_52, if_false, not_false_eq_true, rx, rl, hx, hl, d10, upw_n, hlt, ite_le, n45, or_false, false_and, go_s, gq_s, nl_int, rf_st, g0, gS, ex1, nf_i, true_and, List.set_cons_zero, List.set_cons_succ, List.length_cons, List.length_nil, rd_s, ne_eq, not_false_eq_true, Nat.zero_add]
    with_reducible refine And.intro ?_ ?_
    omega
    with_reducible refine And.intro ?_ ?_
    with_reducible exact cg2 hp0 hn1
    with_reducible refine And.intro ?_ ?_
    with_reducible assumption
    with_reducible refine And.intro ?_ ?_
    with_reducible assumption
    ((with_reducible refine isQ (Q := Q) ?_); exact hQ _ (hC.gapE hl hgl hpl hp0 hn1 (by omega)))
  | succ d ih =>
    intro e w k m hjd hpe hC hk hm
    obtain ⟨gc, gl, ⟨hx, hn, hc, hl, hgc, hgl, hn0, hn1, rx, rn, rc, rl, ⟨d1, d2, d3, d4, d5, d6⟩, ⟨d7, d8, d9, d10, d11, d12⟩⟩, hcd, hpl⟩ := hC.opnP
    have h9 : e + 1 < 1000 := by omega
    have hlt : Int32.ofNat (e + 1) < n := oNl h9 he (by omega)
    have hms := oMs h9
    have hcl := oNc h9
    have hcm := oNc (j := e) (by omega)
    obtain ⟨b, hb, hrb⟩ := hpl (e + 1) (by omega)
    rw [eX1_closeGap_4]
    simp only [eX1_closeGap_5, eX1_closeGap_9, eX1_closeGap_12, eX1_closeGap_16, eX1_closeGap_23, eX1_closeGap_25R, eX1_closeGap_26, eX1_closeGap_32, eX1_closeGap_37, eX1_closeGap_42, eX1_closeGap_46, eX1_closeGap_50, eX1_closeGap_52, if_true, not_false_eq_true, rx, rl, hx, hl, d10, upw_n, hlt, hms, hcl, hcm, hb, sal, snn, ite_le, n45, or_false, false_and, go_s, gq_s, nl_int, rf_st, g0, gS, ex1, nf_i, true_and, List.set_cons_zero, List.set_cons_succ, List.length_cons, List.length_nil, rd_s, ne_eq, not_false_eq_true, Nat.zero_add]
    with_reducible refine And.intro ?_ ?_
    with_reducible exact vpj (by omega)
    with_reducible refine And.intro ?_ ?_
    with_reducible exact vpj (by omega)
    with_reducible refine And.intro ?_ ?_
    with_reducible exact go_Fw hrb trivial
    (rw [oN1]; exact ih (e + 1) _ _ _ (by omega) (by omega) (hC.gapS hl hgl hpl hrb hpe) (by first | assumption | omega) (by first | assumption | omega))
theorem n0p {n : Int32} {p : Nat} (h : p < n.toInt.toNat) : 0 < n := i32_of_lt (by
  show (0 : Int) < n.toInt
  omega)
theorem oN9 {i : Nat} (h : i < 1000) : ¬ Int32.ofNat i = -1 := fun e => oN0 h (by rw [e]; decide)
set_option maxHeartbeats 4000000 in
theorem fX1_closeGap {s : AS} {p : Nat} (hC : CS g w0 x nA cA lA kn s w) (hp : p < s.2.2.1.toInt.toNat) (hQ : ∀ w', CS g w0 x nA cA lA kn (sP_ s (s.2.2.1 - 1) (rmv s.2.2.2.1 p)) w' → Q (.inl none) w') : WP (MX1_closeGap g) Q (0, [some (.ref x), some (.int (Int32.ofNat p)), none], [], w, 0, 0) := by
  obtain ⟨gc, gl, ⟨hx, hn, hc, hl, hgc, hgl, hn0, hn1, rx, rn, rc, rl, ⟨d1, d2, d3, d4, d5, d6⟩, ⟨d7, d8, d9, d10, d11, d12⟩⟩, hcd, hpl⟩ := hC.1.opn g
  simp only [eX1_closeGap_0, nl_int]
  (rw [oN1]; exact flX1_closeGap_4 (s := s) (f := s.2.2.2.1) (n := s.2.2.1) (p := p) (cnt12 hn0 hn1).1 (cnt12 hn0 hn1).2 (n0p hp) hQ (s.2.2.1.toInt.toNat - (p + 1)) p w 0 0 (by omega) (Nat.le_refl p) (by rw [shf_0]; exact hC) (by decide) (by decide))
set_option maxHeartbeats 4000000 in
theorem fX1_lift {s : AS} {a0 : Int32} (hC : CS g w0 x nA cA lA kn s w) (hX : ¬ okC a0 → (Q (.inr "java/lang/IndexOutOfBoundsException") w)) (hS : okC a0 → s.2.1 a0.toNatClampNeg = none → (Q (.inr "java/lang/IllegalStateException") w)) (hN : okC a0 → ∀ r, s.2.1 a0.toNatClampNeg = some r → (∀ i, i < s.2.2.1.toInt.toNat → ¬ mP r (s.2.2.2.1 i)) → Q (.inl (some (.int 0))) w) (hQ : okC a0 → ∀ r, s.2.1 a0.toNatClampNeg = some r → ∀ i, i < s.2.2.1.toInt.toNat → mP r (s.2.2.2.1 i) → (∀ k, k < i → ¬ mP r (s.2.2.2.1 k)) → ∀ w', CS g w0 x nA cA lA kn (sP_ s (s.2.2.1 - 1) (rmv s.2.2.2.1 i)) w' → Q (.inl (some (.int 1))) w') : WP (MX1_lift g) Q (0, [some (.ref x), some (.int a0), none], [], w, 0, 0) := by
  obtain ⟨gc, gl, ⟨hx, hn, hc, hl, hgc, hgl, hn0, hn1, rx, rn, rc, rl, ⟨d1, d2, d3, d4, d5, d6⟩, ⟨d7, d8, d9, d10, d11, d12⟩⟩, hcd, hpl⟩ := hC.1.opn g
  simp only [eX1_lift_0, rx, go_s, wt_nil, wt_ref, true_and, Nat.zero_add, Nat.add_zero]
  with_reducible refine And.intro ?_ ?_
  omega
  with_reducible refine And.intro ?_ ?_
  omega
  with_reducible refine And.intro ?_ ?_
  omega
  with_reducible refine fX1_rangeOf (a0 := a0) hC (fun _ => ?_) (fun k0 e1 => ?_) (fun k0 p r e1 hp => ?_)
  simp only [kx_r]
  with_reducible exact hX (by assumption)
  simp only [kx_r]
  with_reducible exact hS k0 e1
  simp only [eX1_lift_6R, rx, kx_l, go_s, wt_nil, tl_s, true_and, Nat.add_zero]
  with_reducible refine And.intro ?_ ?_
  omega
  with_reducible refine And.intro ?_ ?_
  omega
  with_reducible refine And.intro ?_ ?_
  omega
  with_reducible refine fX1_firstPlaceOf hC hp (fun z1 => ?_) (fun i z1 z2 z3 => ?_)
  simp only [eX1_lift_9, eX1_lift_15, eX1_lift_17, eX1_lift_22, if_true, rx, kx_l, go_s, wt_nil, nl_int, tl_s, true_and, Nat.add_zero]
  with_reducible refine And.intro ?_ ?_
  omega
  with_reducible refine And.intro ?_ ?_
  omega
  with_reducible exact hN k0 r e1 z1
  simp only [eX1_lift_9, eX1_lift_15, eX1_lift_17, eX1_lift_22, rx, kx_l, go_s, wt_nil, nl_int, tl_s, true_and, Nat.add_zero]
  split
  with_reducible refine And.intro ?_ ?_
  with_reducible exact absurd (by assumption) (oN9 (i := i) (by have := (cnt12 hn0 hn1).2; omega))
  with_reducible refine And.intro ?_ ?_
  with_reducible exact absurd (by assumption) (oN9 (i := i) (by have := (cnt12 hn0 hn1).2; omega))
  with_reducible exact absurd (by assumption) (oN9 (i := i) (by have := (cnt12 hn0 hn1).2; omega))
  with_reducible refine And.intro ?_ ?_
  omega
  with_reducible refine And.intro ?_ ?_
  omega
  with_reducible refine And.intro ?_ ?_
  omega
  with_reducible refine fX1_closeGap hC z1 (fun w1 g1 => ?_)
  simp only [eX1_lift_23, kx_l, tl_n]
  with_reducible refine And.intro ?_ ?_
  omega
  with_reducible refine And.intro ?_ ?_
  omega
  with_reducible exact hQ k0 r e1 i z1 z2 z3 w1 g1
end
end
/-! 71.fnb.lean.txt -/
section
section
variable {g : RO} {Q : Ot → Hw → Prop} {w0 w : Hw} {x nA cA lA : Nat} {kn : Int32}
def tur (f : Nat → R4) (N j : Nat) : Nat → R4 := fun i => if i < j ∨ (N - j ≤ i ∧ i < N) then f (N - 1 - i) else f i
def rev (f : Nat → R4) (N : Nat) : Nat → R4 := fun i => f (N - 1 - i)
theorem tur_0 {f : Nat → R4} {N : Nat} : tur f N 0 = f := funext fun i => if_neg (by omega)
theorem tur_s {f : Nat → R4} {N j : Nat} (h : 2 * j + 2 ≤ N) : va_up (va_up (tur f N j) j (tur f N j (N - 1 - j))) (N - 1 - j) (tur f N j j) = tur f N (j + 1) := funext fun i => by
  unfold va_up tur
  rw [if_neg (show ¬ (N - 1 - j < j ∨ (N - j ≤ N - 1 - j ∧ N - 1 - j < N)) by omega), if_neg (show ¬ (j < j ∨ (N - j ≤ j ∧ j < N)) by omega)]
  by_cases k : i = N - 1 - j
  · rw [if_pos k, if_pos (by omega)]
    exact congrArg f (by omega)
  · rw [if_neg k]
    by_cases z : i = j
    · rw [if_pos z, if_pos (by omega)]
      exact congrArg f (by omega)
    · rw [if_neg z]
      by_cases y : i < j ∨ (N - j ≤ i ∧ i < N)
      · rw [if_pos y, if_pos (by omega)]
      · rw [if_neg y, if_neg (by omega)]
theorem tur_e {f : Nat → R4} {N i : Nat} (h : i < N) : tur f N (N / 2) i = rev f N i := by
  unfold tur rev
  by_cases y : i < N / 2 ∨ (N - N / 2 ≤ i ∧ i < N)
  · rw [if_pos y]
  · rw [if_neg y]
    exact congrArg f (by omega)
theorem hlfE {n : Int32} (h0 : ¬ n < 0) (h1 : ¬ 12 < n) : (n / 2).toInt = ((n.toInt.toNat / 2 : Nat) : Int) := by
  have e12 : (12 : Int32).toInt = 12 := rfl
  rcases sw_0 n 12 (by decide) with ⟨k, h, rfl⟩ | h
  · match k, h with
    | 0, _ => decide
    | 1, _ => decide
    | 2, _ => decide
    | 3, _ => decide
    | 4, _ => decide
    | 5, _ => decide
    | 6, _ => decide
    | 7, _ => decide
    | 8, _ => decide
    | 9, _ => decide
    | 10, _ => decide
    | 11, _ => decide
    | 12, _ => decide
  · exfalso
    have a := i32_0 h0
    have b := i32_nlt h1
    omega
theorem acE {n : Int32} {N j : Nat} (he : n.toInt = (N : Int)) (h12 : N ≤ 12) (h : j < N) : n - 1 - Int32.ofNat j = Int32.ofNat (N - 1 - j) := by
  have e1 : (1 : Int32).toInt = 1 := rfl
  have a1 := oNt (j := j) (by omega)
  have a2 := oNt (j := N - 1 - j) (by omega)
  have s1 : (n - 1).toInt = n.toInt - 1 := by rw [i32_sub (by omega) (by omega), e1]
  refine Int32.toInt_inj.1 ?_
  rw [i32_sub (by omega) (by omega), s1, a1, a2]
  omega
theorem CS.turS {s : AS} {n : Int32} {f : Nat → R4} {N j b1 b2 : Nat} {gl : Nat → Option Nat} (h : CS g w0 x nA cA lA kn (sP_ s n (tur f N j)) w) (hl : w lA = some (.inl (4, 12, qc gl))) (hgl : ∀ i c, gl i = some c → isR w c) (k : ∀ i : Nat, (i : Int) < n.toInt → ∃ c, gl i = some c ∧ rAt w c (tur f N j i)) (h1 : rAt w b1 (tur f N j j)) (h2 : rAt w b2 (tur f N j (N - 1 - j))) (hj : 2 * j + 2 ≤ N) : CS g w0 x nA cA lA kn (sP_ s n (tur f N (j + 1))) (upw (upw w lA (.inl (4, 12, qc (va_up gl j (some b2))))) lA (.inl (4, 12, qc (va_up (va_up gl j (some b2)) (N - 1 - j) (some b1))))) := by
  have z : CS g w0 x nA cA lA kn (sP_ s n (va_up (tur f N j) j (tur f N j (N - 1 - j)))) (upw w lA (.inl (4, 12, qc (va_up gl j (some b2))))) := CS.laid h hl hgl k h2 j
  have y : CS g w0 x nA cA lA kn (sP_ s n (va_up (va_up (tur f N j) j (tur f N j (N - 1 - j))) (N - 1 - j) (tur f N j j))) (upw (upw w lA (.inl (4, 12, qc (va_up gl j (some b2))))) lA (.inl (4, 12, qc (va_up (va_up gl j (some b2)) (N - 1 - j) (some b1))))) := CS.laid z (upw_s _ _ _) (fun i c e => isR_up2 (up_ok hgl (fun c e => by cases e; exact h2.isR) i c e) hl (by simp)) (fun i hi => by
    obtain ⟨c, c1, c2⟩ := k i hi
    show ∃ c, va_up gl j (some b2) i = some c ∧ rAt _ c (va_up (tur f N j) j (tur f N j (N - 1 - j)) i)
    unfold va_up
    by_cases e : i = j
    · rw [if_pos e, if_pos e]
      exact ⟨b2, rfl, rAt_up2 h2 hl (by simp)⟩
    · rw [if_neg e, if_neg e]
      exact ⟨c, c1, rAt_up2 c2 hl (by simp)⟩) (rAt_up2 h1 hl (by simp)) (N - 1 - j)
  rw [tur_s hj] at y
  exact y
theorem CS.turE {s : AS} {n : Int32} {f : Nat → R4} {N j : Nat} (h : CS g w0 x nA cA lA kn (sP_ s n (tur f N j)) w) (he : n.toInt = (N : Int)) (hj : j = N / 2) : CS g w0 x nA cA lA kn (sP_ s n (rev f N)) w := by
  subst hj
  exact h.pcg fun i hi => tur_e (by omega)
set_option maxHeartbeats 4000000 in
theorem flX1_turn_2 {s : AS} {f : Nat → R4} {n : Int32} {N : Nat} (he : n.toInt = (N : Int)) (h12 : N ≤ 12) (hv : (n / 2).toInt = ((N / 2 : Nat) : Int)) (hQ : ∀ w', CS g w0 x nA cA lA kn (sP_ s n (rev f N)) w' → Q (.inl (some (.int n))) w') : ∀ (d j : Nat) (i2 i3 : Option Value) (w : Hw) (k m : Nat), j + d = N / 2 → CS g w0 x nA cA lA kn (sP_ s n (tur f N j)) w → k ≤ 0 → m ≤ 0 → WP (MX1_turn g) Q (2, [some (.ref x), some (.int (Int32.ofNat j)), i2, i3], [], w, k, m) := by
  intro d
  induction d with
  | zero =>
    intro j i2 i3 w k m hjd hC hk hm
    obtain ⟨gc, gl, ⟨hx, hn, hc, hl, hgc, hgl, hn0, hn1, rx, rn, rc, rl, ⟨d1, d2, d3, d4, d5, d6⟩, ⟨d7, d8, d9, d10, d11, d12⟩⟩, hcd, hpl⟩ := hC.opnP
    have h9 : j < 1000 := by omega
    have hlt : ¬ Int32.ofNat j < n / 2 := oNg h9 hv (by omega)
    rw [eX1_turn_2]
    simp only [eX1_turn_3, eX1_turn_7, eX1_turn_9, eX1_turn_12, eX1_turn_16, eX1_turn_25, eX1_turn_27, eX1_turn_27N, eX1_turn_28, eX1_turn_32, eX1_turn_37, eX1_turn_39N, eX1_turn_39R, eX1_turn_40, eX1_turn_44, eX1_turn_45, eX1_turn_45N, eX1_turn_46N, eX1_turn_46R, eX1_turn_47, eX1_turn_53, eX1_turn_57, if_false, not_false_eq_true, rx, rl, hl, d3, rd_n, hlt, tn_2, ite_le, n45, or_false, false_and, go_s, gq_s, nl_int, nl_ref, rf_st, g0, gS, ex1, true_and, upw_s, ne_eq, not_false_eq_true]
    with_reducible refine And.intro ?_ ?_
    with_reducible assumption
    with_reducible refine And.intro ?_ ?_
    with_reducible assumption
    ((with_reducible refine isQ (Q := Q) ?_); exact hQ _ (hC.turE he (by omega)))
  | succ d ih =>
    intro j i2 i3 w k m hjd hC hk hm
    obtain ⟨gc, gl, ⟨hx, hn, hc, hl, hgc, hgl, hn0, hn1, rx, rn, rc, rl, ⟨d1, d2, d3, d4, d5, d6⟩, ⟨d7, d8, d9, d10, d11, d12⟩⟩, hcd, hpl⟩ := hC.opnP
    have h9 : j < 1000 := by omega
    have hlt : Int32.ofNat j < n / 2 := oNl h9 hv (by omega)
    have hac := acE (j := j) he h12 (by omega)
    have hcl := oNc h9
    have hcm := oNc (j := N - 1 - j) (by omega)
    obtain ⟨b1, hb1, hr1⟩ := hpl j (by omega)
    obtain ⟨b2, hb2, hr2⟩ := hpl (N - 1 - j) (by omega)
    rw [eX1_turn_2]
    simp only [eX1_turn_3, eX1_turn_7, eX1_turn_9, eX1_turn_12, eX1_turn_16, eX1_turn_25, eX1_turn_27, eX1_turn_27N, eX1_turn_28, eX1_turn_32, eX1_turn_37, eX1_turn_39R, eX1_turn_40, eX1_turn_44, eX1_turn_45, eX1_turn_45N, eX1_turn_46N, eX1_turn_46R, eX1_turn_47, eX1_turn_53, eX1_turn_57, if_true, not_false_eq_true, rx, rl, hl, d3, rd_n, hlt, tn_2, hac, hcl, hcm, hb1, hb2, sal, snn, ite_le, n45, or_false, false_and, go_s, gq_s, nl_int, nl_ref, rf_st, g0, gS, ex1, true_and, upw_s, ne_eq, not_false_eq_true]
    with_reducible refine And.intro ?_ ?_
    with_reducible exact vpj (by omega)
    with_reducible refine And.intro ?_ ?_
    with_reducible exact vpj (by omega)
    with_reducible refine And.intro ?_ ?_
    with_reducible exact vpj (by omega)
    with_reducible refine And.intro ?_ ?_
    with_reducible exact go_Fw hr2 trivial
    with_reducible refine And.intro ?_ ?_
    with_reducible exact vpj (by omega)
    with_reducible refine And.intro ?_ ?_
    with_reducible exact go_Fw (rAt_up2 hr1 hl (by simp)) trivial
    (rw [oN1]; exact ih (j + 1) _ _ _ _ _ (by omega) (hC.turS hl hgl hpl hr1 hr2 (by omega)) (by first | assumption | omega) (by first | assumption | omega))
set_option maxHeartbeats 4000000 in
theorem fX1_turn {s : AS} (hC : CS g w0 x nA cA lA kn s w) (hQ : ∀ w', CS g w0 x nA cA lA kn (sP_ s s.2.2.1 (rev s.2.2.2.1 s.2.2.1.toInt.toNat)) w' → Q (.inl (some (.int s.2.2.1))) w') : WP (MX1_turn g) Q (0, [some (.ref x), none, none, none], [], w, 0, 0) := by
  obtain ⟨gc, gl, ⟨hx, hn, hc, hl, hgc, hgl, hn0, hn1, rx, rn, rc, rl, ⟨d1, d2, d3, d4, d5, d6⟩, ⟨d7, d8, d9, d10, d11, d12⟩⟩, hcd, hpl⟩ := hC.1.opn g
  simp only [eX1_turn_0, nl_ref]
  ((with_reducible refine isWP (pc := 2) ?_); exact flX1_turn_2 (s := s) (f := s.2.2.2.1) (n := s.2.2.1) (cnt12 hn0 hn1).1 (cnt12 hn0 hn1).2 (hlfE hn0 hn1) hQ (s.2.2.1.toInt.toNat / 2) 0 _ _ w 0 0 (by omega) (by rw [tur_0]; exact hC) (by decide) (by decide))
theorem upw_upw {w : Hw} {a : Nat} {o o' : Ob} : upw (upw w a o) a o' = upw w a o' := funext fun c => by
  by_cases e : c = a
  · subst e
    rw [upw_s, upw_s]
  · rw [upw_n e, upw_n e, upw_n e]
theorem upw_id {w : Hw} {a : Nat} {o : Ob} (h : w a = some o) : upw w a o = w := funext fun c => by
  by_cases e : c = a
  · subst e
    rw [upw_s, h]
  · rw [upw_n e]
/-- while the pile is swept: the rest is as it was -/
def SW (g : RO) (w0 : Hw) (x nA cA lA : Nat) (kn : Int32) (s : AS) (w1 : Hw) : Prop := ∃ (w : Hw) (gl gl1 : Nat → Option Nat), CS g w0 x nA cA lA kn s w ∧ w lA = some (.inl (4, 12, qc gl)) ∧ (∀ i b, gl1 i = some b → isR w b) ∧ w1 = upw w lA (.inl (4, 12, qc gl1))
theorem SW.of {s : AS} (h : CS g w0 x nA cA lA kn s w) : SW g w0 x nA cA lA kn s w := by
  obtain ⟨gc, gl, ⟨h1, h2, h3, h4, h5, h6, -⟩, -⟩ := h.1.opn g
  exact ⟨w, gl, gl, h, h4, h6, (upw_id h4).symm⟩
theorem SW.opn {s : AS} (h : SW g w0 x nA cA lA kn s w) : ∃ gc gl : Nat → Option Nat, RO5 g w x nA cA lA s.2.2.1 s.2.2.2.2.1 kn s.2.2.2.2.2 s.1 gc gl := by
  obtain ⟨w, gl, gl1, hC, hl, h6', rfl⟩ := h
  obtain ⟨gc, gl', ⟨h1, h2, h3, h4, h5, h6, h7, h8, -, -, -, -, ⟨d1, d2, d3, d4, d5, d6⟩, ⟨d7, d8, d9, d10, d11, d12⟩⟩, -⟩ := hC.1.opn g
  have g1 := (upw_n (o := .inl (4, 12, qc gl1)) d3).trans h1
  have g2 := (upw_n (o := .inl (4, 12, qc gl1)) d6).trans h2
  have g3 := (upw_n (o := .inl (4, 12, qc gl1)) d9).trans h3
  have g4 := upw_s w lA (.inl (4, 12, qc gl1))
  exact ⟨gc, gl1, g1, g2, g3, g4, fun i b z => isR_up2 (h5 i b z) hl (by simp), fun i b z => isR_up2 (h6' i b z) hl (by simp), h7, h8, rd_e g1, rd_e g2, rd_e g3, rd_e g4, ⟨d1, d2, d3, d4, d5, d6⟩, ⟨d7, d8, d9, d10, d11, d12⟩⟩
theorem SW.nul {s : AS} {gl : Nat → Option Nat} (h : SW g w0 x nA cA lA kn s w) (hl : w lA = some (.inl (4, 12, qc gl))) (j : Nat) : SW g w0 x nA cA lA kn s (upw w lA (.inl (4, 12, qc (va_up gl j none)))) := by
  obtain ⟨w, gl', gl1, hC, hl', h6, rfl⟩ := h
  rw [upw_s] at hl
  cases hl
  exact ⟨w, gl', va_up gl j none, hC, hl', up_ok h6 (fun c e => by cases e), upw_upw⟩
theorem SW.fin {s : AS} (h : SW g w0 x nA cA lA kn s w) (F : Nat → R4) : CS g w0 x nA cA lA kn (sP_ s 0 F) (upw w x (.inr (5, [.ref nA, .ref cA, .ref lA, .int 0, .int s.2.2.2.2.1, .int kn, .int s.2.2.2.2.2]))) := by
  obtain ⟨w, gl', gl1, hC, hl, h6, rfl⟩ := h
  obtain ⟨gc, gl', ⟨h1, h2, h3, h4, h5, -, -, -, -, -, -, -, ⟨d1, d2, d3, d4, d5, d6⟩, ⟨d7, d8, d9, d10, d11, d12⟩⟩, k1, k2⟩ := hC.1.opn g
  have hx' := (upw_n (o := .inl (4, 12, qc gl1)) d3).trans h1
  have R : ∀ c q, rAt w c q → rAt (upw (upw w lA (.inl (4, 12, qc gl1))) x (.inr (5, [.ref nA, .ref cA, .ref lA, .int 0, .int s.2.2.2.2.1, .int kn, .int s.2.2.2.2.2]))) c q := fun c q hc => rAt_up2 (rAt_up2 hc hl (by simp)) hx' (by simp)
  have RR : ∀ c, isR w c → isR (upw (upw w lA (.inl (4, 12, qc gl1))) x (.inr (5, [.ref nA, .ref cA, .ref lA, .int 0, .int s.2.2.2.2.1, .int kn, .int s.2.2.2.2.2]))) c := fun c hc => isR_up2 (isR_up2 hc hl (by simp)) hx' (by simp)
  exact ⟨⟨gc, gl1, ⟨upw_s _ _ _, by rw [upw_n d4, upw_n d6]; exact h2, by rw [upw_n d7, upw_n d9]; exact h3, by rw [upw_n d10]; exact upw_s _ _ _, fun i c z => RR c (h5 i c z), fun i c z => RR c (h6 i c z), show ¬ (0 : Int32) < 0 by decide, show ¬ (12 : Int32) < 0 by decide⟩, fun i hi => (k1 i hi).mp R, fun i hi => by
    have hi' : (i : Int) < (0 : Int32).toInt := hi
    have e0 : (0 : Int32).toInt = 0 := rfl
    omega⟩, (hC.2.up hl (Or.inr rfl)).up hx' (Or.inr rfl)⟩
set_option maxHeartbeats 4000000 in
theorem flX1_sweep_7 {s : AS} (hQ : ∀ w', (∀ F, CS g w0 x nA cA lA kn (sP_ s 0 F) w') → Q (.inl (some (.int s.2.2.1))) w') : ∀ (d j : Nat) (w : Hw) (k m : Nat), j + d = 12 → SW g w0 x nA cA lA kn s w → k ≤ 0 → m ≤ 0 → WP (MX1_sweep g) Q (7, [some (.ref x), some (.int s.2.2.1), some (.int (Int32.ofNat j))], [], w, k, m) := by
  intro d
  induction d with
  | zero =>
    intro j w k m hjd hC hk hm
    obtain ⟨gc, gl, hx, hn, hc, hl, hgc, hgl, hn0, hn1, rx, rn, rc, rl, ⟨d1, d2, d3, d4, d5, d6⟩, ⟨d7, d8, d9, d10, d11, d12⟩⟩ := hC.opn
    have h9 : j < 1000 := by omega
    have hlt : ¬ Int32.ofNat j < 12 := oNg (B := 12) h9 rfl (by omega)
    rw [eX1_sweep_7]
    simp only [eX1_sweep_8, eX1_sweep_12, eX1_sweep_13, eX1_sweep_16, eX1_sweep_20, eX1_sweep_23, eX1_sweep_29, eX1_sweep_34, if_false, rx, rl, hx, hl, hlt, exal, o12, ite_le, n45, or_false, go_s, gq_s, nl_int, g0, gS, ex1, nf_i, true_and, List.set_cons_zero, List.set_cons_succ, List.length_cons, List.length_nil, Nat.zero_add]
    with_reducible refine And.intro ?_ ?_
    omega
    with_reducible refine And.intro ?_ ?_
    omega
    with_reducible refine And.intro ?_ ?_
    with_reducible assumption
    with_reducible refine And.intro ?_ ?_
    with_reducible assumption
    ((with_reducible refine isQ (Q := Q) ?_); exact hQ _ (fun F => hC.fin F))
  | succ d ih =>
    intro j w k m hjd hC hk hm
    obtain ⟨gc, gl, hx, hn, hc, hl, hgc, hgl, hn0, hn1, rx, rn, rc, rl, ⟨d1, d2, d3, d4, d5, d6⟩, ⟨d7, d8, d9, d10, d11, d12⟩⟩ := hC.opn
    have h9 : j < 1000 := by omega
    have hlt : Int32.ofNat j < 12 := oNl (B := 12) h9 rfl (by omega)
    have hcl := oNc h9
    rw [eX1_sweep_7]
    simp only [eX1_sweep_8, eX1_sweep_12, eX1_sweep_13, eX1_sweep_16, eX1_sweep_20, eX1_sweep_23, eX1_sweep_29, eX1_sweep_34, if_true, rx, rl, hx, hl, hlt, hcl, exal, o12, ite_le, n45, or_false, go_s, gq_s, nl_int, g0, gS, ex1, nf_i, true_and, List.set_cons_zero, List.set_cons_succ, List.length_cons, List.length_nil, Nat.zero_add]
    with_reducible refine And.intro ?_ ?_
    omega
    with_reducible refine And.intro ?_ ?_
    with_reducible exact vpj (by omega)
    (rw [oN1]; exact ih (j + 1) _ _ _ (by omega) (hC.nul hl _) (by first | assumption | omega) (by first | assumption | omega))
set_option maxHeartbeats 4000000 in
theorem fX1_sweep {s : AS} (hC : CS g w0 x nA cA lA kn s w) (hQ : ∀ w', (∀ F, CS g w0 x nA cA lA kn (sP_ s 0 F) w') → Q (.inl (some (.int s.2.2.1))) w') : WP (MX1_sweep g) Q (0, [some (.ref x), none, none], [], w, 0, 0) := by
  obtain ⟨gc, gl, ⟨hx, hn, hc, hl, hgc, hgl, hn0, hn1, rx, rn, rc, rl, ⟨d1, d2, d3, d4, d5, d6⟩, ⟨d7, d8, d9, d10, d11, d12⟩⟩, hcd, hpl⟩ := hC.1.opn g
  simp only [eX1_sweep_0, eX1_sweep_4, rx, go_s, nl_int, nl_ref, g0, gS, ex1]
  ((with_reducible refine isWP (pc := 7) ?_); exact flX1_sweep_7 hQ 12 0 w 0 0 rfl (SW.of hC) (by decide) (by decide))
end
end
/-! 71.fnc.lean.txt -/
section
section
variable {g : RO} {Q : Ot → Hw → Prop} {w0 w : Hw} {x nA cA lA : Nat} {kn : Int32}
theorem mP_rf {r : R4} : mP r r := ⟨rfl, rfl, rfl, rfl⟩
theorem mSy {r q : R4} (h : mP r q) : mP q r := ⟨h.1.symm, h.2.1.symm, h.2.2.1.symm, h.2.2.2.symm⟩
theorem rAt_cp {q : Nat} {r : R4} : rAt (upw w q (.inr (4, [.long r.1, .long r.2.1, .long r.2.2.1, .long r.2.2.2]))) q r := upw_s _ _ _
theorem lmi8 : (-9223372036854775808 : Int64).toInt = -9223372036854775808 := by decide
theorem lmx8 : (9223372036854775807 : Int64).toInt = 9223372036854775807 := by decide
theorem outL {r : R4} (h : ¬ r.1.toInt = -9223372036854775808) : ¬ hP r (r.1 - 1) := by
  rintro ⟨h1, -⟩
  have a := Int64.le_toInt r.1
  have b := Int64.toInt_lt r.1
  have e1 : (1 : Int64).toInt = 1 := rfl
  have e : (r.1 - 1).toInt = r.1.toInt - 1 := by
    rw [Int64.toInt_sub, e1]
    exact Int.bmod_eq_of_le (by omega) (by omega)
  omega
theorem outG {r : R4} (h : ¬ r.2.2.2.toInt = 9223372036854775807) : ¬ hP r (r.2.2.2 + 1) := by
  rintro ⟨-, h1⟩
  have a := Int64.le_toInt r.2.2.2
  have b := Int64.toInt_lt r.2.2.2
  have e1 : (1 : Int64).toInt = 1 := rfl
  have e : (r.2.2.2 + 1).toInt = r.2.2.2.toInt + 1 := by
    rw [Int64.toInt_add, e1]
    exact Int.bmod_eq_of_le (by omega) (by omega)
  omega
theorem eHeld {r : R4} {a : Int32} (h : rOk r) : hP r (eV r a) := by
  obtain ⟨h1, h2, h3, h4⟩ := h
  unfold eV
  repeat' split
  all_goals exact ⟨by omega, by omega⟩
theorem hsv {d r : R4} {v : Int64} (e1 : d.1 = r.1) (e2 : d.2.2.2 = r.2.2.2) (h : hP d v) : hP r v := by
  have h' : d.1.toInt ≤ v.toInt ∧ v.toInt ≤ d.2.2.2.toInt := h
  rw [e1, e2] at h'
  exact h'
theorem dLow {r : R4} (h : rOk r) : oP r.1 r.1 r.2.2.1 r.2.2.2 := ⟨Int.le_refl _, h.2.1, h.2.2.1, by
  obtain ⟨h1, h2, h3, h4⟩ := h
  omega⟩
theorem dHigh {r : R4} (h : rOk r) : oP r.1 r.2.1 r.2.2.2 r.2.2.2 := ⟨h.1, Int.le_refl _, by
  obtain ⟨h1, h2, h3, h4⟩ := h
  omega, h.2.2.2⟩
abbrev cD (o : Option R4) : R4 := o.getD (0, 0, 0, 0)
theorem cdG {gc : Nat → Option Nat} {s : AS} {j b : Nat} (hcd : ∀ i, i < 6 → cM w (gc i) (s.2.1 i)) (h : j < 6) (e : gc j = some b) : rAt w b (cD (s.2.1 j)) := by
  have k := hcd j h
  rw [e] at k
  obtain ⟨r, h1, h2⟩ := k.s
  rw [h1]
  exact h2
theorem cdO {gc : Nat → Option Nat} {s : AS} {j b : Nat} (ho : sOk s) (hcd : ∀ i, i < 6 → cM w (gc i) (s.2.1 i)) (h : j < 6) (e : gc j = some b) : rOk (cD (s.2.1 j)) := by
  have k := hcd j h
  rw [e] at k
  obtain ⟨r, h1, -⟩ := k.s
  have z := ho.1 j r h h1
  rw [h1]
  exact z
set_option maxHeartbeats 4000000 in
theorem fX1_isLikeItsCopy {p : Nat} {r : R4} (hp : rAt w p r) (ho : rOk r) (hQ : ∀ w', ext g w w' → Q (.inl (some (.int 1))) w') : WP (MX1_isLikeItsCopy g) Q (0, [some (.ref p), none], [], w, 0, 0) := by
  repeat' first
    | with_reducible assumption
    | with_reducible refine And.intro ?_ ?_
    | with_reducible exact vpi6 (by assumption) (by assumption)
    | with_reducible exact vpi8 (by assumption) (by assumption)
    | with_reducible exact trivial
    | with_reducible refine fX1_copyOf hp (fun hno => ?_) (fun hyes q hq => ?_)
    | with_reducible exact absurd ho hno
    | with_reducible exact go_F hp trivial
    | with_reducible exact go_F (hp.ext (ext_up2 ext.rf hq)) trivial
    | with_reducible exact go_F rAt_cp trivial
    | with_reducible refine fX0_matchesR rAt_cp (hp.ext (ext_up2 ext.rf hq)) (fun hm => ?_) (fun hm => ?_)
    | with_reducible refine fX0_matchesR (hp.ext (ext_up2 ext.rf hq)) rAt_cp (fun hm => ?_) (fun hm => ?_)
    | with_reducible exact absurd mP_rf hm
    | with_reducible refine fX0_hash rAt_cp ?_
    | with_reducible refine fX0_hash (hp.ext (ext_up2 ext.rf hq)) ?_
    | with_reducible exact hQ _ (ext_up2 ext.rf hq)
    | simp only [eX1_isLikeItsCopy_0, eX1_isLikeItsCopy_0N, eX1_isLikeItsCopy_1R, eX1_isLikeItsCopy_1N, eX1_isLikeItsCopy_4, eX1_isLikeItsCopy_4N, eX1_isLikeItsCopy_5, eX1_isLikeItsCopy_5N, eX1_isLikeItsCopy_6R, eX1_isLikeItsCopy_6N, eX1_isLikeItsCopy_9, eX1_isLikeItsCopy_9N, eX1_isLikeItsCopy_10, eX1_isLikeItsCopy_10N, eX1_isLikeItsCopy_11R, eX1_isLikeItsCopy_11N, eX1_isLikeItsCopy_14, eX1_isLikeItsCopy_17, eX1_isLikeItsCopy_17N, eX1_isLikeItsCopy_18, eX1_isLikeItsCopy_18N, eX1_isLikeItsCopy_19R, eX1_isLikeItsCopy_19N, eX1_isLikeItsCopy_22, eX1_isLikeItsCopy_25, eX1_isLikeItsCopy_25N, eX1_isLikeItsCopy_26, eX1_isLikeItsCopy_29, eX1_isLikeItsCopy_29N, eX1_isLikeItsCopy_30, eX1_isLikeItsCopy_33, eX1_isLikeItsCopy_37, eX1_isLikeItsCopy_41, eX1_isLikeItsCopy_42, lgp, lgn, lgz, i10, i00, if_true, if_false, eq_self, not_true, not_false_eq_true, ite_le, n45, n54, true_or, or_true, false_or, or_false, false_and, and_false, kx_l, kx_r, go_s, gl_s, gi_s, gb_s2, gb_s3, gq_s, wt_nil, wt_int, wt_long, wt_ref, wt_null, nl_int, nl_long, nl_ref, nl_null, nl_none, rf_n, rf_s, rf_st, tl_s, tl_n, g0, gS, ex1, nb_b, nb_0, nb_1, nf_i, nf_l, nf_ra, nf_ro, nf_na, nf_no, nf_b0, nf_z0, t45_4, t45_5, true_and, and_true, List.set_cons_zero, List.set_cons_succ, List.length_cons, List.length_nil, rd_s, upw_s, ne_eq, not_false_eq_true, Nat.zero_add, Nat.add_zero]
    | split
    | with_reducible intro _
    | omega
set_option maxHeartbeats 4000000 in
theorem fX1_isOuterSound {p : Nat} {r : R4} (hp : rAt w p r) (hQ : Q (.inl (some (.int 1))) w) : WP (MX1_isOuterSound g) Q (0, [some (.ref p)], [], w, 0, 0) := by
  repeat' first
    | with_reducible assumption
    | with_reducible refine And.intro ?_ ?_
    | with_reducible exact vpi6 (by assumption) (by assumption)
    | with_reducible exact vpi8 (by assumption) (by assumption)
    | with_reducible exact trivial
    | with_reducible refine go_F hp ?_
    | with_reducible refine fX0_holds hp (fun hm => ?_) (fun hm => ?_)
    | with_reducible exact absurd hm (outL (by assumption))
    | with_reducible exact absurd hm (outG (by assumption))
    | simp only [eX1_isOuterSound_0, eX1_isOuterSound_0N, eX1_isOuterSound_1, eX1_isOuterSound_4, eX1_isOuterSound_7, eX1_isOuterSound_11, eX1_isOuterSound_11N, eX1_isOuterSound_12, eX1_isOuterSound_12N, eX1_isOuterSound_13, eX1_isOuterSound_16, eX1_isOuterSound_17, eX1_isOuterSound_21, eX1_isOuterSound_24, eX1_isOuterSound_24N, eX1_isOuterSound_25, eX1_isOuterSound_28, eX1_isOuterSound_31, eX1_isOuterSound_35, eX1_isOuterSound_35N, eX1_isOuterSound_36, eX1_isOuterSound_36N, eX1_isOuterSound_37, eX1_isOuterSound_40, eX1_isOuterSound_41, eX1_isOuterSound_45, eX1_isOuterSound_48, eX1_isOuterSound_52, eX1_isOuterSound_53, lgp, lgn, lgz, i10, i00, if_true, if_false, eq_self, not_true, not_false_eq_true, lmi8, lmx8, ite_le, n45, n54, true_or, or_true, false_or, or_false, false_and, and_false, kx_l, kx_r, go_s, gl_s, gi_s, gb_s2, gb_s3, gq_s, wt_nil, wt_int, wt_long, wt_ref, wt_null, nl_int, nl_long, nl_ref, nl_null, nl_none, rf_n, rf_s, rf_st, tl_s, tl_n, g0, gS, ex1, nb_b, nb_0, nb_1, nf_i, nf_l, nf_ra, nf_ro, nf_na, nf_no, nf_b0, nf_z0, t45_4, t45_5, true_and, and_true, List.set_cons_zero, List.set_cons_succ, List.length_cons, List.length_nil, rd_s, upw_s, ne_eq, not_false_eq_true, Nat.zero_add, Nat.add_zero]
    | split
    | with_reducible intro _
    | omega
set_option maxHeartbeats 4000000 in
theorem flX1_isEachEndHeld_2 {p : Nat} {r : R4} (hp : rAt w p r) (ho : rOk r) (hQ : Q (.inl (some (.int 1))) w) : ∀ (d j : Nat) (i2 : Option Value) (i3 : Option Value) (k m : Nat), j + d = 4 → k ≤ 0 → m ≤ 0 → WP (MX1_isEachEndHeld g) Q (2, [some (.ref p), some (.int (Int32.ofNat j)), i2, i3], [], w, k, m) := by
  intro d
  induction d with
  | zero =>
    intro j i2 i3 k m hjd hk hm
    have h9 : j < 1000 := (by omega)
    have hlt : ¬ Int32.ofNat j < 4 := oNg (B := 4) h9 rfl (by omega)
    have hnn := oN0 h9
    have hcl := oNc h9
    obtain rfl : j = 4 := by omega
    rw [eX1_isEachEndHeld_2]
    repeat' first
      | with_reducible assumption
      | with_reducible refine And.intro ?_ ?_
      | with_reducible exact vpi6 (by assumption) (by assumption)
      | with_reducible exact vpi8 (by assumption) (by assumption)
      | with_reducible exact trivial
      | with_reducible exact go_F hp trivial
      | with_reducible refine fX0_endAt hp ?_
      | with_reducible refine fX0_holds hp (fun hm => ?_) (fun hm => ?_)
      | with_reducible exact absurd (eHeld ho) hm
      | with_reducible refine fX0_holdsAsSmall hp (fun z1 => ?_) (fun z1 => ?_)
      | with_reducible refine fX0_fitsSmall hp (fun z2 => ?_) (fun z2 => ?_)
      | with_reducible exact absurd z1.1 z2
      | with_reducible exact absurd (And.intro z2 (eHeld ho)) z1
      | ((with_reducible refine isQ (Q := Q) ?_); exact hQ)
      | simp only [eX1_isEachEndHeld_0, eX1_isEachEndHeld_3, eX1_isEachEndHeld_7, eX1_isEachEndHeld_7N, eX1_isEachEndHeld_8, eX1_isEachEndHeld_12, eX1_isEachEndHeld_13, eX1_isEachEndHeld_13N, eX1_isEachEndHeld_14, eX1_isEachEndHeld_18, eX1_isEachEndHeld_21, eX1_isEachEndHeld_21N, eX1_isEachEndHeld_22, eX1_isEachEndHeld_26, eX1_isEachEndHeld_26N, eX1_isEachEndHeld_27, eX1_isEachEndHeld_30, eX1_isEachEndHeld_33, eX1_isEachEndHeld_35, eX1_isEachEndHeld_41, lgp, lgn, lgz, i10, i00, if_true, if_false, eq_self, not_true, not_false_eq_true, hlt, hcl, ite_le, n45, n54, true_or, or_true, false_or, or_false, false_and, and_false, kx_l, kx_r, go_s, gl_s, gi_s, gb_s2, gb_s3, gq_s, wt_nil, wt_int, wt_long, wt_ref, wt_null, nl_int, nl_long, nl_ref, nl_null, nl_none, rf_n, rf_s, rf_st, tl_s, tl_n, g0, gS, ex1, nb_b, nb_0, nb_1, nf_i, nf_l, nf_ra, nf_ro, nf_na, nf_no, nf_b0, nf_z0, t45_4, t45_5, true_and, and_true, List.set_cons_zero, List.set_cons_succ, List.length_cons, List.length_nil, rd_s, upw_s, ne_eq, not_false_eq_true, Nat.zero_add, Nat.add_zero]
      | split
      | with_reducible intro _
      | omega
  | succ d ih =>
    intro j i2 i3 k m hjd hk hm
    have h9 : j < 1000 := (by omega)
    have hlt : Int32.ofNat j < 4 := oNl (B := 4) h9 rfl (by omega)
    have hnn := oN0 h9
    have hcl := oNc h9
    rw [eX1_isEachEndHeld_2]
    repeat' first
      | with_reducible assumption
      | with_reducible refine And.intro ?_ ?_
      | with_reducible exact vpi6 (by assumption) (by assumption)
      | with_reducible exact vpi8 (by assumption) (by assumption)
      | with_reducible exact trivial
      | (rw [oN1]; exact ih (j + 1) _ _ _ _ (by omega) (by first | assumption | omega) (by first | assumption | omega))
      | with_reducible exact go_F hp trivial
      | with_reducible refine fX0_endAt hp ?_
      | with_reducible refine fX0_holds hp (fun hm => ?_) (fun hm => ?_)
      | with_reducible exact absurd (eHeld ho) hm
      | with_reducible refine fX0_holdsAsSmall hp (fun z1 => ?_) (fun z1 => ?_)
      | with_reducible refine fX0_fitsSmall hp (fun z2 => ?_) (fun z2 => ?_)
      | with_reducible exact absurd z1.1 z2
      | with_reducible exact absurd (And.intro z2 (eHeld ho)) z1
      | ((with_reducible refine isQ (Q := Q) ?_); exact hQ)
      | simp only [eX1_isEachEndHeld_0, eX1_isEachEndHeld_3, eX1_isEachEndHeld_7, eX1_isEachEndHeld_7N, eX1_isEachEndHeld_8, eX1_isEachEndHeld_12, eX1_isEachEndHeld_13, eX1_isEachEndHeld_13N, eX1_isEachEndHeld_14, eX1_isEachEndHeld_18, eX1_isEachEndHeld_21, eX1_isEachEndHeld_21N, eX1_isEachEndHeld_22, eX1_isEachEndHeld_26, eX1_isEachEndHeld_26N, eX1_isEachEndHeld_27, eX1_isEachEndHeld_30, eX1_isEachEndHeld_33, eX1_isEachEndHeld_35, eX1_isEachEndHeld_41, lgp, lgn, lgz, i10, i00, if_true, if_false, eq_self, not_true, not_false_eq_true, hlt, hcl, ite_le, n45, n54, true_or, or_true, false_or, or_false, false_and, and_false, kx_l, kx_r, go_s, gl_s, gi_s, gb_s2, gb_s3, gq_s, wt_nil, wt_int, wt_long, wt_ref, wt_null, nl_int, nl_long, nl_ref, nl_null, nl_none, rf_n, rf_s, rf_st, tl_s, tl_n, g0, gS, ex1, nb_b, nb_0, nb_1, nf_i, nf_l, nf_ra, nf_ro, nf_na, nf_no, nf_b0, nf_z0, t45_4, t45_5, true_and, and_true, List.set_cons_zero, List.set_cons_succ, List.length_cons, List.length_nil, rd_s, upw_s, ne_eq, not_false_eq_true, Nat.zero_add, Nat.add_zero]
      | split
      | with_reducible intro _
      | omega
set_option maxHeartbeats 4000000 in
theorem fX1_isEachEndHeld {p : Nat} {r : R4} (hp : rAt w p r) (ho : rOk r) (hQ : Q (.inl (some (.int 1))) w) : WP (MX1_isEachEndHeld g) Q (0, [some (.ref p), none, none, none], [], w, 0, 0) := by
  repeat' first
    | with_reducible assumption
    | with_reducible refine And.intro ?_ ?_
    | with_reducible exact vpi6 (by assumption) (by assumption)
    | with_reducible exact vpi8 (by assumption) (by assumption)
    | with_reducible exact trivial
    | ((with_reducible refine isWP (pc := 2) ?_); exact flX1_isEachEndHeld_2 hp ho hQ 4 0 _ _ _ _ rfl (by decide) (by decide))
    | simp only [eX1_isEachEndHeld_0, eX1_isEachEndHeld_3, eX1_isEachEndHeld_7, eX1_isEachEndHeld_7N, eX1_isEachEndHeld_8, eX1_isEachEndHeld_12, eX1_isEachEndHeld_13, eX1_isEachEndHeld_13N, eX1_isEachEndHeld_14, eX1_isEachEndHeld_18, eX1_isEachEndHeld_21, eX1_isEachEndHeld_21N, eX1_isEachEndHeld_22, eX1_isEachEndHeld_26, eX1_isEachEndHeld_26N, eX1_isEachEndHeld_27, eX1_isEachEndHeld_30, eX1_isEachEndHeld_33, eX1_isEachEndHeld_35, eX1_isEachEndHeld_41, lgp, lgn, lgz, i10, i00, if_true, if_false, eq_self, not_true, not_false_eq_true, ite_le, n45, n54, true_or, or_true, false_or, or_false, false_and, and_false, kx_l, kx_r, go_s, gl_s, gi_s, gb_s2, gb_s3, gq_s, wt_nil, wt_int, wt_long, wt_ref, wt_null, nl_int, nl_long, nl_ref, nl_null, nl_none, rf_n, rf_s, rf_st, tl_s, tl_n, g0, gS, ex1, nb_b, nb_0, nb_1, nf_i, nf_l, nf_ra, nf_ro, nf_na, nf_no, nf_b0, nf_z0, t45_4, t45_5, true_and, and_true, List.set_cons_zero, List.set_cons_succ, List.length_cons, List.length_nil, rd_s, upw_s, ne_eq, not_false_eq_true, Nat.zero_add, Nat.add_zero]
    | split
    | with_reducible intro _
    | omega
set_option maxHeartbeats 4000000 in
theorem flX1_hasSameValid_8 {s : AS} {p q : Nat} {d r : R4} (hC : CS g w0 x nA cA lA kn s w) (hd : rAt w p d) (hr : rAt w q r) (e1 : d.1 = r.1) (e2 : d.2.2.2 = r.2.2.2) (hQ : Q (.inl (some (.int 1))) w) : ∀ (d j : Nat)  (k m : Nat), j + d = 8 → k ≤ 0 → m ≤ 0 → WP (MX1_hasSameValid g) Q (8, [some (.ref x), some (.ref p), some (.ref q), some (.int (Int32.ofNat j))], [], w, k, m) := by
  obtain ⟨gc, gl, ⟨hx, hn, hc, hl, hgc, hgl, hn0, hn1, rx, rn, rc, rl, ⟨d1, d2, d3, d4, d5, d6⟩, ⟨d7, d8, d9, d10, d11, d12⟩⟩, hcd, hpl⟩ := hC.1.opn g
  intro d
  induction d with
  | zero =>
    intro j  k m hjd hk hm
    have h9 : j < 1000 := (by omega)
    have hlt : ¬ Int32.ofNat j < 8 := oNg (B := 8) h9 rfl (by omega)
    have hnn := oN0 h9
    have hcl := oNc h9
    obtain rfl : j = 8 := by omega
    rw [eX1_hasSameValid_8]
    repeat' first
      | with_reducible assumption
      | with_reducible refine And.intro ?_ ?_
      | with_reducible exact vpi6 (by assumption) (by assumption)
      | with_reducible exact vpi8 (by assumption) (by assumption)
      | with_reducible exact trivial
      | with_reducible exact go_F hd trivial
      | with_reducible exact go_F hr trivial
      | with_reducible refine fX0_holds hd (fun z1 => ?_) (fun z1 => ?_)
      | with_reducible refine fX0_holds hr (fun z2 => ?_) (fun z2 => ?_)
      | with_reducible exact absurd (hsv e1 e2 z1) z2
      | with_reducible exact absurd (hsv e1.symm e2.symm z2) z1
      | ((with_reducible refine isQ (Q := Q) ?_); exact hQ)
      | simp only [eX1_hasSameValid_0, eX1_hasSameValid_0N, eX1_hasSameValid_1R, eX1_hasSameValid_1N, eX1_hasSameValid_4, eX1_hasSameValid_6, eX1_hasSameValid_9, eX1_hasSameValid_14, eX1_hasSameValid_14N, eX1_hasSameValid_15, eX1_hasSameValid_15N, eX1_hasSameValid_16, eX1_hasSameValid_19, eX1_hasSameValid_21, eX1_hasSameValid_24, eX1_hasSameValid_24N, eX1_hasSameValid_25, eX1_hasSameValid_25N, eX1_hasSameValid_26, eX1_hasSameValid_29, eX1_hasSameValid_30, eX1_hasSameValid_31, eX1_hasSameValid_34, eX1_hasSameValid_37, eX1_hasSameValid_39, eX1_hasSameValid_45, lgp, lgn, lgz, i10, i00, if_true, if_false, eq_self, not_true, not_false_eq_true, hlt, hcl, rx, rn, rc, rl, hx, hn, hc, hl, d1, d2, d3, d4, d5, d6, d7, d8, d9, d10, d11, d12, rd_n, upw_n, ite_le, n45, n54, true_or, or_true, false_or, or_false, false_and, and_false, kx_l, kx_r, go_s, gl_s, gi_s, gb_s2, gb_s3, gq_s, wt_nil, wt_int, wt_long, wt_ref, wt_null, nl_int, nl_long, nl_ref, nl_null, nl_none, rf_n, rf_s, rf_st, tl_s, tl_n, g0, gS, ex1, nb_b, nb_0, nb_1, nf_i, nf_l, nf_ra, nf_ro, nf_na, nf_no, nf_b0, nf_z0, t45_4, t45_5, true_and, and_true, List.set_cons_zero, List.set_cons_succ, List.length_cons, List.length_nil, rd_s, upw_s, ne_eq, not_false_eq_true, Nat.zero_add, Nat.add_zero]
      | split
      | with_reducible intro _
      | omega
  | succ d ih =>
    intro j  k m hjd hk hm
    have h9 : j < 1000 := (by omega)
    have hlt : Int32.ofNat j < 8 := oNl (B := 8) h9 rfl (by omega)
    have hnn := oN0 h9
    have hcl := oNc h9
    rw [eX1_hasSameValid_8]
    repeat' first
      | with_reducible assumption
      | with_reducible refine And.intro ?_ ?_
      | with_reducible exact vpi6 (by assumption) (by assumption)
      | with_reducible exact vpi8 (by assumption) (by assumption)
      | with_reducible exact trivial
      | (rw [oN1]; exact ih (j + 1)  _ _ (by omega) (by first | assumption | omega) (by first | assumption | omega))
      | with_reducible exact go_F hd trivial
      | with_reducible exact go_F hr trivial
      | with_reducible refine fX0_holds hd (fun z1 => ?_) (fun z1 => ?_)
      | with_reducible refine fX0_holds hr (fun z2 => ?_) (fun z2 => ?_)
      | with_reducible exact absurd (hsv e1 e2 z1) z2
      | with_reducible exact absurd (hsv e1.symm e2.symm z2) z1
      | ((with_reducible refine isQ (Q := Q) ?_); exact hQ)
      | simp only [eX1_hasSameValid_0, eX1_hasSameValid_0N, eX1_hasSameValid_1R, eX1_hasSameValid_1N, eX1_hasSameValid_4, eX1_hasSameValid_6, eX1_hasSameValid_9, eX1_hasSameValid_14, eX1_hasSameValid_14N, eX1_hasSameValid_15, eX1_hasSameValid_15N, eX1_hasSameValid_16, eX1_hasSameValid_19, eX1_hasSameValid_21, eX1_hasSameValid_24, eX1_hasSameValid_24N, eX1_hasSameValid_25, eX1_hasSameValid_25N, eX1_hasSameValid_26, eX1_hasSameValid_29, eX1_hasSameValid_30, eX1_hasSameValid_31, eX1_hasSameValid_34, eX1_hasSameValid_37, eX1_hasSameValid_39, eX1_hasSameValid_45, lgp, lgn, lgz, i10, i00, if_true, if_false, eq_self, not_true, not_false_eq_true, hlt, hcl, rx, rn, rc, rl, hx, hn, hc, hl, d1, d2, d3, d4, d5, d6, d7, d8, d9, d10, d11, d12, rd_n, upw_n, ite_le, n45, n54, true_or, or_true, false_or, or_false, false_and, and_false, kx_l, kx_r, go_s, gl_s, gi_s, gb_s2, gb_s3, gq_s, wt_nil, wt_int, wt_long, wt_ref, wt_null, nl_int, nl_long, nl_ref, nl_null, nl_none, rf_n, rf_s, rf_st, tl_s, tl_n, g0, gS, ex1, nb_b, nb_0, nb_1, nf_i, nf_l, nf_ra, nf_ro, nf_na, nf_no, nf_b0, nf_z0, t45_4, t45_5, true_and, and_true, List.set_cons_zero, List.set_cons_succ, List.length_cons, List.length_nil, rd_s, upw_s, ne_eq, not_false_eq_true, Nat.zero_add, Nat.add_zero]
      | split
      | with_reducible intro _
      | omega
set_option maxHeartbeats 4000000 in
theorem fX1_hasSameValid {s : AS} {p q : Nat} {d r : R4} (hC : CS g w0 x nA cA lA kn s w) (hd : rAt w p d) (hr : rAt w q r) (e1 : d.1 = r.1) (e2 : d.2.2.2 = r.2.2.2) (hQ : Q (.inl (some (.int 1))) w) : WP (MX1_hasSameValid g) Q (0, [some (.ref x), some (.ref p), some (.ref q), none], [], w, 0, 0) := by
  repeat' first
    | with_reducible assumption
    | with_reducible refine And.intro ?_ ?_
    | with_reducible exact vpi6 (by assumption) (by assumption)
    | with_reducible exact vpi8 (by assumption) (by assumption)
    | with_reducible exact trivial
    | ((with_reducible refine isWP (pc := 8) ?_); exact flX1_hasSameValid_8 hC hd hr e1 e2 hQ 8 0  _ _ rfl (by decide) (by decide))
    | simp only [eX1_hasSameValid_0, eX1_hasSameValid_0N, eX1_hasSameValid_1R, eX1_hasSameValid_1N, eX1_hasSameValid_4, eX1_hasSameValid_6, eX1_hasSameValid_9, eX1_hasSameValid_14, eX1_hasSameValid_14N, eX1_hasSameValid_15, eX1_hasSameValid_15N, eX1_hasSameValid_16, eX1_hasSameValid_19, eX1_hasSameValid_21, eX1_hasSameValid_24, eX1_hasSameValid_24N, eX1_hasSameValid_25, eX1_hasSameValid_25N, eX1_hasSameValid_26, eX1_hasSameValid_29, eX1_hasSameValid_30, eX1_hasSameValid_31, eX1_hasSameValid_34, eX1_hasSameValid_37, eX1_hasSameValid_39, eX1_hasSameValid_45, lgp, lgn, lgz, i10, i00, if_true, if_false, eq_self, not_true, not_false_eq_true, ite_le, n45, n54, true_or, or_true, false_or, or_false, false_and, and_false, kx_l, kx_r, go_s, gl_s, gi_s, gb_s2, gb_s3, gq_s, wt_nil, wt_int, wt_long, wt_ref, wt_null, nl_int, nl_long, nl_ref, nl_null, nl_none, rf_n, rf_s, rf_st, tl_s, tl_n, g0, gS, ex1, nb_b, nb_0, nb_1, nf_i, nf_l, nf_ra, nf_ro, nf_na, nf_no, nf_b0, nf_z0, t45_4, t45_5, true_and, and_true, List.set_cons_zero, List.set_cons_succ, List.length_cons, List.length_nil, rd_s, upw_s, ne_eq, not_false_eq_true, Nat.zero_add, Nat.add_zero]
    | split
    | with_reducible intro _
    | omega
set_option maxHeartbeats 4000000 in
theorem fX1_isDrawnSound {s : AS} {p : Nat} {r : R4} (hC : CS g w0 x nA cA lA kn s w) (ho : rOk r) (hp : rAt w p r) (hQ : ∀ w', ext g w w' → Q (.inl (some (.int 1))) w') : WP (MX1_isDrawnSound g) Q (0, [some (.ref x), some (.ref p), none, none], [], w, 0, 0) := by
  repeat' first
    | with_reducible assumption
    | with_reducible refine And.intro ?_ ?_
    | with_reducible exact vpi6 (by assumption) (by assumption)
    | with_reducible exact vpi8 (by assumption) (by assumption)
    | with_reducible exact trivial
    | with_reducible refine fX0_ofFour (a0 := r.1) (a1 := r.1) (a2 := r.2.2.1) (a3 := r.2.2.2) (fun hno => ?_) (fun hyes q1 hq1 => ?_)
    | with_reducible refine fX0_ofFour (a0 := r.1) (a1 := r.2.1) (a2 := r.2.2.2) (a3 := r.2.2.2) (fun hno => ?_) (fun hyes q2 hq2 => ?_)
    | with_reducible exact absurd (dLow ho) hno
    | with_reducible exact absurd (dHigh ho) hno
    | with_reducible exact go_5 (hC.ext ((ext_up2 ext.rf hq1).tr (ext_up2 ext.rf hq2)))
    | with_reducible refine fX1_hasSameValid (hC.ext ((ext_up2 ext.rf hq1).tr (ext_up2 ext.rf hq2))) (rAt_new.ext (ext_up2 ext.rf hq2)) (hp.ext ((ext_up2 ext.rf hq1).tr (ext_up2 ext.rf hq2))) rfl rfl ?_
    | with_reducible refine fX1_hasSameValid (hC.ext ((ext_up2 ext.rf hq1).tr (ext_up2 ext.rf hq2))) rAt_new (hp.ext ((ext_up2 ext.rf hq1).tr (ext_up2 ext.rf hq2))) rfl rfl ?_
    | with_reducible refine go_F hp ?_
    | with_reducible refine go_F (hp.ext (ext_up2 ext.rf hq1)) ?_
    | with_reducible exact hQ _ ((ext_up2 ext.rf hq1).tr (ext_up2 ext.rf hq2))
    | simp only [eX1_isDrawnSound_0, eX1_isDrawnSound_0N, eX1_isDrawnSound_1, eX1_isDrawnSound_4, eX1_isDrawnSound_4N, eX1_isDrawnSound_5, eX1_isDrawnSound_8, eX1_isDrawnSound_8N, eX1_isDrawnSound_9, eX1_isDrawnSound_12, eX1_isDrawnSound_12N, eX1_isDrawnSound_13, eX1_isDrawnSound_16, eX1_isDrawnSound_19, eX1_isDrawnSound_19N, eX1_isDrawnSound_20, eX1_isDrawnSound_20N, eX1_isDrawnSound_21, eX1_isDrawnSound_24, eX1_isDrawnSound_24N, eX1_isDrawnSound_25, eX1_isDrawnSound_28, eX1_isDrawnSound_28N, eX1_isDrawnSound_29, eX1_isDrawnSound_32, eX1_isDrawnSound_32N, eX1_isDrawnSound_33, eX1_isDrawnSound_36, eX1_isDrawnSound_39, eX1_isDrawnSound_39N, eX1_isDrawnSound_40, eX1_isDrawnSound_40N, eX1_isDrawnSound_41, eX1_isDrawnSound_41N, eX1_isDrawnSound_42, eX1_isDrawnSound_42N, eX1_isDrawnSound_43RR, eX1_isDrawnSound_43NR, eX1_isDrawnSound_43RN, eX1_isDrawnSound_43NN, eX1_isDrawnSound_46, eX1_isDrawnSound_49, eX1_isDrawnSound_49N, eX1_isDrawnSound_50, eX1_isDrawnSound_50N, eX1_isDrawnSound_51, eX1_isDrawnSound_51N, eX1_isDrawnSound_52RR, eX1_isDrawnSound_52NR, eX1_isDrawnSound_52RN, eX1_isDrawnSound_52NN, eX1_isDrawnSound_55, eX1_isDrawnSound_58, eX1_isDrawnSound_62, eX1_isDrawnSound_63, lgp, lgn, lgz, i10, i00, if_true, if_false, eq_self, not_true, not_false_eq_true, ite_le, n45, n54, true_or, or_true, false_or, or_false, false_and, and_false, kx_l, kx_r, go_s, gl_s, gi_s, gb_s2, gb_s3, gq_s, wt_nil, wt_int, wt_long, wt_ref, wt_null, nl_int, nl_long, nl_ref, nl_null, nl_none, rf_n, rf_s, rf_st, tl_s, tl_n, g0, gS, ex1, nb_b, nb_0, nb_1, nf_i, nf_l, nf_ra, nf_ro, nf_na, nf_no, nf_b0, nf_z0, t45_4, t45_5, true_and, and_true, List.set_cons_zero, List.set_cons_succ, List.length_cons, List.length_nil, rd_s, upw_s, ne_eq, not_false_eq_true, Nat.zero_add, Nat.add_zero]
    | split
    | with_reducible intro _
    | omega
set_option maxHeartbeats 4000000 in
theorem fX1_isSoundAlone {s : AS} {p : Nat} {r : R4} (hC : CS g w0 x nA cA lA kn s w) (ho : rOk r) (hp : rAt w p r) (hQ : ∀ w', ext g w w' → Q (.inl (some (.int 1))) w') : WP (MX1_isSoundAlone g) Q (0, [some (.ref x), some (.ref p)], [], w, 0, 0) := by
  repeat' first
    | with_reducible assumption
    | with_reducible refine And.intro ?_ ?_
    | with_reducible exact vpi6 (by assumption) (by assumption)
    | with_reducible exact vpi8 (by assumption) (by assumption)
    | with_reducible exact trivial
    | with_reducible refine fX1_isLikeItsCopy hp ho (fun w1 x1 => ?_)
    | with_reducible refine fX0_isSettled (hp.ext x1) (fun z1 => ?_) (fun z1 => ?_)
    | with_reducible refine fX1_outerOf (hp.ext x1) (fun hno => ?_) (fun hyes q hq => ?_)
    | with_reducible exact absurd (oOut ho) hno
    | with_reducible refine fX0_matchesR (hp.ext (x1.tr (ext_up2 ext.rf hq))) rAt_new (fun z2 => ?_) (fun z2 => ?_)
    | with_reducible exact absurd (mOut z2) z1
    | with_reducible exact absurd z1 (mOutN z2)
    | with_reducible refine fX1_isOuterSound (hp.ext (x1.tr (ext_up2 ext.rf hq))) ?_
    | with_reducible refine fX1_isEachEndHeld (hp.ext (x1.tr (ext_up2 ext.rf hq))) ho ?_
    | with_reducible refine fX1_isDrawnSound (hC.ext (x1.tr (ext_up2 ext.rf hq))) ho (hp.ext (x1.tr (ext_up2 ext.rf hq))) (fun w3 x3 => ?_)
    | with_reducible exact go_F (hp.ext x1) trivial
    | with_reducible exact go_F (hp.ext (x1.tr (ext_up2 ext.rf hq))) trivial
    | with_reducible exact go_5 (hC.ext (x1.tr (ext_up2 ext.rf hq)))
    | with_reducible exact hQ _ ((x1.tr (ext_up2 ext.rf hq)).tr x3)
    | simp only [eX1_isSoundAlone_0, eX1_isSoundAlone_0N, eX1_isSoundAlone_1R, eX1_isSoundAlone_1N, eX1_isSoundAlone_4, eX1_isSoundAlone_7, eX1_isSoundAlone_7N, eX1_isSoundAlone_8, eX1_isSoundAlone_11, eX1_isSoundAlone_11N, eX1_isSoundAlone_12, eX1_isSoundAlone_12N, eX1_isSoundAlone_13R, eX1_isSoundAlone_13N, eX1_isSoundAlone_16R, eX1_isSoundAlone_16N, eX1_isSoundAlone_19, eX1_isSoundAlone_22, eX1_isSoundAlone_22N, eX1_isSoundAlone_23R, eX1_isSoundAlone_23N, eX1_isSoundAlone_26, eX1_isSoundAlone_29, eX1_isSoundAlone_29N, eX1_isSoundAlone_30R, eX1_isSoundAlone_30N, eX1_isSoundAlone_33, eX1_isSoundAlone_36, eX1_isSoundAlone_36N, eX1_isSoundAlone_37, eX1_isSoundAlone_37N, eX1_isSoundAlone_38R, eX1_isSoundAlone_38N, eX1_isSoundAlone_41, eX1_isSoundAlone_44, eX1_isSoundAlone_48, eX1_isSoundAlone_49, lgp, lgn, lgz, i10, i00, if_true, if_false, eq_self, not_true, not_false_eq_true, ite_le, n45, n54, true_or, or_true, false_or, or_false, false_and, and_false, kx_l, kx_r, go_s, gl_s, gi_s, gb_s2, gb_s3, gq_s, wt_nil, wt_int, wt_long, wt_ref, wt_null, nl_int, nl_long, nl_ref, nl_null, nl_none, rf_n, rf_s, rf_st, tl_s, tl_n, g0, gS, ex1, nb_b, nb_0, nb_1, nf_i, nf_l, nf_ra, nf_ro, nf_na, nf_no, nf_b0, nf_z0, t45_4, t45_5, true_and, and_true, List.set_cons_zero, List.set_cons_succ, List.length_cons, List.length_nil, rd_s, upw_s, ne_eq, not_false_eq_true, Nat.zero_add, Nat.add_zero]
    | split
    | with_reducible intro _
    | omega
set_option maxHeartbeats 4000000 in
theorem flX1_isSameToAndFro_2 {s : AS} {p : Nat} {r : R4} (hC : CS g w0 x nA cA lA kn s w) (hp : rAt w p r) (hQ : Q (.inl (some (.int 1))) w) : ∀ (d j : Nat) (i3 : Option Value) (k m : Nat), j + d = 6 → k ≤ 0 → m ≤ 0 → WP (MX1_isSameToAndFro g) Q (2, [some (.ref x), some (.ref p), some (.int (Int32.ofNat j)), i3], [], w, k, m) := by
  obtain ⟨gc, gl, ⟨hx, hn, hc, hl, hgc, hgl, hn0, hn1, rx, rn, rc, rl, ⟨d1, d2, d3, d4, d5, d6⟩, ⟨d7, d8, d9, d10, d11, d12⟩⟩, hcd, hpl⟩ := hC.1.opn g
  intro d
  induction d with
  | zero =>
    intro j i3 k m hjd hk hm
    have h9 : j < 1000 := (by omega)
    have hlt : ¬ Int32.ofNat j < 6 := oNg (B := 6) h9 rfl (by omega)
    have hnn := oN0 h9
    have hcl := oNc h9
    obtain rfl : j = 6 := by omega
    rw [eX1_isSameToAndFro_2]
    repeat' first
      | with_reducible assumption
      | with_reducible refine And.intro ?_ ?_
      | with_reducible exact vpi6 (by assumption) (by assumption)
      | with_reducible exact vpi8 (by assumption) (by assumption)
      | with_reducible exact trivial
      | with_reducible exact go_F hp trivial
      | with_reducible exact go_F (cdG hcd (j := j) (by omega) (by assumption)) trivial
      | with_reducible refine fX0_matchesR hp (cdG hcd (j := j) (by omega) (by assumption)) (fun z1 => ?_) (fun z1 => ?_)
      | with_reducible refine fX0_matchesR (cdG hcd (j := j) (by omega) (by assumption)) hp (fun z2 => ?_) (fun z2 => ?_)
      | with_reducible exact absurd (mSy z1) z2
      | with_reducible exact absurd (mSy z2) z1
      | ((with_reducible refine isQ (Q := Q) ?_); exact hQ)
      | simp only [eX1_isSameToAndFro_0, eX1_isSameToAndFro_3, eX1_isSameToAndFro_8, eX1_isSameToAndFro_8N, eX1_isSameToAndFro_9, eX1_isSameToAndFro_12, eX1_isSameToAndFro_14, eX1_isSameToAndFro_14N, eX1_isSameToAndFro_15, eX1_isSameToAndFro_15N, eX1_isSameToAndFro_16R, eX1_isSameToAndFro_16N, eX1_isSameToAndFro_19, eX1_isSameToAndFro_19N, eX1_isSameToAndFro_20, eX1_isSameToAndFro_20N, eX1_isSameToAndFro_21R, eX1_isSameToAndFro_21N, eX1_isSameToAndFro_24, eX1_isSameToAndFro_24N, eX1_isSameToAndFro_25, eX1_isSameToAndFro_25N, eX1_isSameToAndFro_26R, eX1_isSameToAndFro_26N, eX1_isSameToAndFro_29, eX1_isSameToAndFro_32, eX1_isSameToAndFro_34, eX1_isSameToAndFro_40, lgp, lgn, lgz, i10, i00, if_true, if_false, eq_self, not_true, not_false_eq_true, hlt, hcl, rx, rn, rc, rl, hx, hn, hc, hl, d1, d2, d3, d4, d5, d6, d7, d8, d9, d10, d11, d12, rd_n, upw_n, ite_le, n45, n54, true_or, or_true, false_or, or_false, false_and, and_false, kx_l, kx_r, go_s, gl_s, gi_s, gb_s2, gb_s3, gq_s, wt_nil, wt_int, wt_long, wt_ref, wt_null, nl_int, nl_long, nl_ref, nl_null, nl_none, rf_n, rf_s, rf_st, tl_s, tl_n, g0, gS, ex1, nb_b, nb_0, nb_1, nf_i, nf_l, nf_ra, nf_ro, nf_na, nf_no, nf_b0, nf_z0, t45_4, t45_5, true_and, and_true, List.set_cons_zero, List.set_cons_succ, List.length_cons, List.length_nil, rd_s, upw_s, ne_eq, not_false_eq_true, Nat.zero_add, Nat.add_zero]
      | split
      | with_reducible intro _
      | omega
  | succ d ih =>
    intro j i3 k m hjd hk hm
    have h9 : j < 1000 := (by omega)
    have hlt : Int32.ofNat j < 6 := oNl (B := 6) h9 rfl (by omega)
    have hnn := oN0 h9
    have hcl := oNc h9
    rw [eX1_isSameToAndFro_2]
    repeat' first
      | with_reducible assumption
      | with_reducible refine And.intro ?_ ?_
      | with_reducible exact vpi6 (by assumption) (by assumption)
      | with_reducible exact vpi8 (by assumption) (by assumption)
      | with_reducible exact trivial
      | (rw [oN1]; exact ih (j + 1) _ _ _ (by omega) (by first | assumption | omega) (by first | assumption | omega))
      | with_reducible exact go_F hp trivial
      | with_reducible exact go_F (cdG hcd (j := j) (by omega) (by assumption)) trivial
      | with_reducible refine fX0_matchesR hp (cdG hcd (j := j) (by omega) (by assumption)) (fun z1 => ?_) (fun z1 => ?_)
      | with_reducible refine fX0_matchesR (cdG hcd (j := j) (by omega) (by assumption)) hp (fun z2 => ?_) (fun z2 => ?_)
      | with_reducible exact absurd (mSy z1) z2
      | with_reducible exact absurd (mSy z2) z1
      | ((with_reducible refine isQ (Q := Q) ?_); exact hQ)
      | simp only [eX1_isSameToAndFro_0, eX1_isSameToAndFro_3, eX1_isSameToAndFro_8, eX1_isSameToAndFro_8N, eX1_isSameToAndFro_9, eX1_isSameToAndFro_12, eX1_isSameToAndFro_14, eX1_isSameToAndFro_14N, eX1_isSameToAndFro_15, eX1_isSameToAndFro_15N, eX1_isSameToAndFro_16R, eX1_isSameToAndFro_16N, eX1_isSameToAndFro_19, eX1_isSameToAndFro_19N, eX1_isSameToAndFro_20, eX1_isSameToAndFro_20N, eX1_isSameToAndFro_21R, eX1_isSameToAndFro_21N, eX1_isSameToAndFro_24, eX1_isSameToAndFro_24N, eX1_isSameToAndFro_25, eX1_isSameToAndFro_25N, eX1_isSameToAndFro_26R, eX1_isSameToAndFro_26N, eX1_isSameToAndFro_29, eX1_isSameToAndFro_32, eX1_isSameToAndFro_34, eX1_isSameToAndFro_40, lgp, lgn, lgz, i10, i00, if_true, if_false, eq_self, not_true, not_false_eq_true, hlt, hcl, rx, rn, rc, rl, hx, hn, hc, hl, d1, d2, d3, d4, d5, d6, d7, d8, d9, d10, d11, d12, rd_n, upw_n, ite_le, n45, n54, true_or, or_true, false_or, or_false, false_and, and_false, kx_l, kx_r, go_s, gl_s, gi_s, gb_s2, gb_s3, gq_s, wt_nil, wt_int, wt_long, wt_ref, wt_null, nl_int, nl_long, nl_ref, nl_null, nl_none, rf_n, rf_s, rf_st, tl_s, tl_n, g0, gS, ex1, nb_b, nb_0, nb_1, nf_i, nf_l, nf_ra, nf_ro, nf_na, nf_no, nf_b0, nf_z0, t45_4, t45_5, true_and, and_true, List.set_cons_zero, List.set_cons_succ, List.length_cons, List.length_nil, rd_s, upw_s, ne_eq, not_false_eq_true, Nat.zero_add, Nat.add_zero]
      | split
      | with_reducible intro _
      | omega
set_option maxHeartbeats 4000000 in
theorem fX1_isSameToAndFro {s : AS} {p : Nat} {r : R4} (hC : CS g w0 x nA cA lA kn s w) (hp : rAt w p r) (hQ : Q (.inl (some (.int 1))) w) : WP (MX1_isSameToAndFro g) Q (0, [some (.ref x), some (.ref p), none, none], [], w, 0, 0) := by
  repeat' first
    | with_reducible assumption
    | with_reducible refine And.intro ?_ ?_
    | with_reducible exact vpi6 (by assumption) (by assumption)
    | with_reducible exact vpi8 (by assumption) (by assumption)
    | with_reducible exact trivial
    | ((with_reducible refine isWP (pc := 2) ?_); exact flX1_isSameToAndFro_2 hC hp hQ 6 0 _ _ _ rfl (by decide) (by decide))
    | simp only [eX1_isSameToAndFro_0, eX1_isSameToAndFro_3, eX1_isSameToAndFro_8, eX1_isSameToAndFro_8N, eX1_isSameToAndFro_9, eX1_isSameToAndFro_12, eX1_isSameToAndFro_14, eX1_isSameToAndFro_14N, eX1_isSameToAndFro_15, eX1_isSameToAndFro_15N, eX1_isSameToAndFro_16R, eX1_isSameToAndFro_16N, eX1_isSameToAndFro_19, eX1_isSameToAndFro_19N, eX1_isSameToAndFro_20, eX1_isSameToAndFro_20N, eX1_isSameToAndFro_21R, eX1_isSameToAndFro_21N, eX1_isSameToAndFro_24, eX1_isSameToAndFro_24N, eX1_isSameToAndFro_25, eX1_isSameToAndFro_25N, eX1_isSameToAndFro_26R, eX1_isSameToAndFro_26N, eX1_isSameToAndFro_29, eX1_isSameToAndFro_32, eX1_isSameToAndFro_34, eX1_isSameToAndFro_40, lgp, lgn, lgz, i10, i00, if_true, if_false, eq_self, not_true, not_false_eq_true, ite_le, n45, n54, true_or, or_true, false_or, or_false, false_and, and_false, kx_l, kx_r, go_s, gl_s, gi_s, gb_s2, gb_s3, gq_s, wt_nil, wt_int, wt_long, wt_ref, wt_null, nl_int, nl_long, nl_ref, nl_null, nl_none, rf_n, rf_s, rf_st, tl_s, tl_n, g0, gS, ex1, nb_b, nb_0, nb_1, nf_i, nf_l, nf_ra, nf_ro, nf_na, nf_no, nf_b0, nf_z0, t45_4, t45_5, true_and, and_true, List.set_cons_zero, List.set_cons_succ, List.length_cons, List.length_nil, rd_s, upw_s, ne_eq, not_false_eq_true, Nat.zero_add, Nat.add_zero]
    | split
    | with_reducible intro _
    | omega
set_option maxHeartbeats 4000000 in
theorem flX1_isEachFoundInPile_2 {s : AS} (hC : CS g w0 x nA cA lA kn s w) (hQ : Q (.inl (some (.int 1))) w) : ∀ (d j : Nat) (i2 : Option Value) (k m : Nat), j + d = s.2.2.1.toInt.toNat → k ≤ 0 → m ≤ 0 → WP (MX1_isEachFoundInPile g) Q (2, [some (.ref x), some (.int (Int32.ofNat j)), i2], [], w, k, m) := by
  obtain ⟨gc, gl, ⟨hx, hn, hc, hl, hgc, hgl, hn0, hn1, rx, rn, rc, rl, ⟨d1, d2, d3, d4, d5, d6⟩, ⟨d7, d8, d9, d10, d11, d12⟩⟩, hcd, hpl⟩ := hC.1.opn g
  intro d
  induction d with
  | zero =>
    intro j i2 k m hjd hk hm
    have h9 : j < 1000 := (by have := (cnt12 hn0 hn1).2; omega)
    have hlt : ¬ Int32.ofNat j < s.2.2.1 := oNg (B := s.2.2.1.toInt.toNat) h9 (cnt12 hn0 hn1).1 (by omega)
    have hnn := oN0 h9
    have hcl := oNc h9
    obtain rfl : j = s.2.2.1.toInt.toNat := by omega
    rw [eX1_isEachFoundInPile_2]
    repeat' first
      | with_reducible assumption
      | with_reducible refine And.intro ?_ ?_
      | with_reducible exact vpi6 (by assumption) (by assumption)
      | with_reducible exact vpi8 (by assumption) (by assumption)
      | with_reducible exact trivial
      | with_reducible exact vpj (j := j) (by have := (cnt12 hn0 hn1).2; omega)
      | with_reducible exact go_5 hC
      | with_reducible exact absurd (by assumption) (pln (j := j) hpl (by omega))
      | with_reducible refine fX1_firstPlaceOf hC (plj (j := j) hpl (by omega) (by assumption)) (fun z1 => ?_) (fun i z1 z2 z3 => ?_)
      | with_reducible exact absurd mP_rf (z1 j (by omega))
      | with_reducible exact absurd (by assumption) (oN9 (i := i) (by have := (cnt12 hn0 hn1).2; omega))
      | ((with_reducible refine isQ (Q := Q) ?_); exact hQ)
      | simp only [eX1_isEachFoundInPile_0, eX1_isEachFoundInPile_3, eX1_isEachFoundInPile_3N, eX1_isEachFoundInPile_4, eX1_isEachFoundInPile_7, eX1_isEachFoundInPile_10, eX1_isEachFoundInPile_10N, eX1_isEachFoundInPile_11, eX1_isEachFoundInPile_14, eX1_isEachFoundInPile_16, eX1_isEachFoundInPile_16N, eX1_isEachFoundInPile_17, eX1_isEachFoundInPile_17N, eX1_isEachFoundInPile_18R, eX1_isEachFoundInPile_18N, eX1_isEachFoundInPile_21, eX1_isEachFoundInPile_21N, eX1_isEachFoundInPile_22, eX1_isEachFoundInPile_22N, eX1_isEachFoundInPile_23R, eX1_isEachFoundInPile_23N, eX1_isEachFoundInPile_26, eX1_isEachFoundInPile_27, eX1_isEachFoundInPile_30, eX1_isEachFoundInPile_32, eX1_isEachFoundInPile_38, lgp, lgn, lgz, i10, i00, if_true, if_false, eq_self, not_true, not_false_eq_true, hlt, hcl, rx, rn, rc, rl, hx, hn, hc, hl, d1, d2, d3, d4, d5, d6, d7, d8, d9, d10, d11, d12, rd_n, upw_n, ite_le, n45, n54, true_or, or_true, false_or, or_false, false_and, and_false, kx_l, kx_r, go_s, gl_s, gi_s, gb_s2, gb_s3, gq_s, wt_nil, wt_int, wt_long, wt_ref, wt_null, nl_int, nl_long, nl_ref, nl_null, nl_none, rf_n, rf_s, rf_st, tl_s, tl_n, g0, gS, ex1, nb_b, nb_0, nb_1, nf_i, nf_l, nf_ra, nf_ro, nf_na, nf_no, nf_b0, nf_z0, t45_4, t45_5, true_and, and_true, List.set_cons_zero, List.set_cons_succ, List.length_cons, List.length_nil, rd_s, upw_s, ne_eq, not_false_eq_true, Nat.zero_add, Nat.add_zero]
      | split
      | with_reducible intro _
      | omega
  | succ d ih =>
    intro j i2 k m hjd hk hm
    have h9 : j < 1000 := (by have := (cnt12 hn0 hn1).2; omega)
    have hlt : Int32.ofNat j < s.2.2.1 := oNl (B := s.2.2.1.toInt.toNat) h9 (cnt12 hn0 hn1).1 (by omega)
    have hnn := oN0 h9
    have hcl := oNc h9
    rw [eX1_isEachFoundInPile_2]
    repeat' first
      | with_reducible assumption
      | with_reducible refine And.intro ?_ ?_
      | with_reducible exact vpi6 (by assumption) (by assumption)
      | with_reducible exact vpi8 (by assumption) (by assumption)
      | with_reducible exact trivial
      | (rw [oN1]; exact ih (j + 1) _ _ _ (by omega) (by first | assumption | omega) (by first | assumption | omega))
      | with_reducible exact vpj (j := j) (by have := (cnt12 hn0 hn1).2; omega)
      | with_reducible exact go_5 hC
      | with_reducible exact absurd (by assumption) (pln (j := j) hpl (by omega))
      | with_reducible refine fX1_firstPlaceOf hC (plj (j := j) hpl (by omega) (by assumption)) (fun z1 => ?_) (fun i z1 z2 z3 => ?_)
      | with_reducible exact absurd mP_rf (z1 j (by omega))
      | with_reducible exact absurd (by assumption) (oN9 (i := i) (by have := (cnt12 hn0 hn1).2; omega))
      | ((with_reducible refine isQ (Q := Q) ?_); exact hQ)
      | simp only [eX1_isEachFoundInPile_0, eX1_isEachFoundInPile_3, eX1_isEachFoundInPile_3N, eX1_isEachFoundInPile_4, eX1_isEachFoundInPile_7, eX1_isEachFoundInPile_10, eX1_isEachFoundInPile_10N, eX1_isEachFoundInPile_11, eX1_isEachFoundInPile_14, eX1_isEachFoundInPile_16, eX1_isEachFoundInPile_16N, eX1_isEachFoundInPile_17, eX1_isEachFoundInPile_17N, eX1_isEachFoundInPile_18R, eX1_isEachFoundInPile_18N, eX1_isEachFoundInPile_21, eX1_isEachFoundInPile_21N, eX1_isEachFoundInPile_22, eX1_isEachFoundInPile_22N, eX1_isEachFoundInPile_23R, eX1_isEachFoundInPile_23N, eX1_isEachFoundInPile_26, eX1_isEachFoundInPile_27, eX1_isEachFoundInPile_30, eX1_isEachFoundInPile_32, eX1_isEachFoundInPile_38, lgp, lgn, lgz, i10, i00, if_true, if_false, eq_self, not_true, not_false_eq_true, hlt, hcl, rx, rn, rc, rl, hx, hn, hc, hl, d1, d2, d3, d4, d5, d6, d7, d8, d9, d10, d11, d12, rd_n, upw_n, ite_le, n45, n54, true_or, or_true, false_or, or_false, false_and, and_false, kx_l, kx_r, go_s, gl_s, gi_s, gb_s2, gb_s3, gq_s, wt_nil, wt_int, wt_long, wt_ref, wt_null, nl_int, nl_long, nl_ref, nl_null, nl_none, rf_n, rf_s, rf_st, tl_s, tl_n, g0, gS, ex1, nb_b, nb_0, nb_1, nf_i, nf_l, nf_ra, nf_ro, nf_na, nf_no, nf_b0, nf_z0, t45_4, t45_5, true_and, and_true, List.set_cons_zero, List.set_cons_succ, List.length_cons, List.length_nil, rd_s, upw_s, ne_eq, not_false_eq_true, Nat.zero_add, Nat.add_zero]
      | split
      | with_reducible intro _
      | omega
set_option maxHeartbeats 4000000 in
theorem fX1_isEachFoundInPile {s : AS} (hC : CS g w0 x nA cA lA kn s w) (hQ : Q (.inl (some (.int 1))) w) : WP (MX1_isEachFoundInPile g) Q (0, [some (.ref x), none, none], [], w, 0, 0) := by
  repeat' first
    | with_reducible assumption
    | with_reducible refine And.intro ?_ ?_
    | with_reducible exact vpi6 (by assumption) (by assumption)
    | with_reducible exact vpi8 (by assumption) (by assumption)
    | with_reducible exact trivial
    | ((with_reducible refine isWP (pc := 2) ?_); exact flX1_isEachFoundInPile_2 hC hQ _ 0 _ _ _ (Nat.zero_add _) (by decide) (by decide))
    | simp only [eX1_isEachFoundInPile_0, eX1_isEachFoundInPile_3, eX1_isEachFoundInPile_3N, eX1_isEachFoundInPile_4, eX1_isEachFoundInPile_7, eX1_isEachFoundInPile_10, eX1_isEachFoundInPile_10N, eX1_isEachFoundInPile_11, eX1_isEachFoundInPile_14, eX1_isEachFoundInPile_16, eX1_isEachFoundInPile_16N, eX1_isEachFoundInPile_17, eX1_isEachFoundInPile_17N, eX1_isEachFoundInPile_18R, eX1_isEachFoundInPile_18N, eX1_isEachFoundInPile_21, eX1_isEachFoundInPile_21N, eX1_isEachFoundInPile_22, eX1_isEachFoundInPile_22N, eX1_isEachFoundInPile_23R, eX1_isEachFoundInPile_23N, eX1_isEachFoundInPile_26, eX1_isEachFoundInPile_27, eX1_isEachFoundInPile_30, eX1_isEachFoundInPile_32, eX1_isEachFoundInPile_38, lgp, lgn, lgz, i10, i00, if_true, if_false, eq_self, not_true, not_false_eq_true, ite_le, n45, n54, true_or, or_true, false_or, or_false, false_and, and_false, kx_l, kx_r, go_s, gl_s, gi_s, gb_s2, gb_s3, gq_s, wt_nil, wt_int, wt_long, wt_ref, wt_null, nl_int, nl_long, nl_ref, nl_null, nl_none, rf_n, rf_s, rf_st, tl_s, tl_n, g0, gS, ex1, nb_b, nb_0, nb_1, nf_i, nf_l, nf_ra, nf_ro, nf_na, nf_no, nf_b0, nf_z0, t45_4, t45_5, true_and, and_true, List.set_cons_zero, List.set_cons_succ, List.length_cons, List.length_nil, rd_s, upw_s, ne_eq, not_false_eq_true, Nat.zero_add, Nat.add_zero]
    | split
    | with_reducible intro _
    | omega
set_option maxHeartbeats 4000000 in
theorem flX1_isSound_2 {s : AS} (hC : CS g w0 x nA cA lA kn s w) (ho : sOk s) (hQ : ∀ w', ext g w w' → Q (.inl (some (.int 1))) w') : ∀ (d j : Nat) (i2 : Option Value) (w1 : Hw) (k m : Nat), j + d = 6 → ext g w w1 → k + 4 * d ≤ 24 → m + 16 * d ≤ 96 → WP (MX1_isSound g) Q (2, [some (.ref x), some (.int (Int32.ofNat j)), i2], [], w1, k, m) := by
  intro d
  induction d with
  | zero =>
    intro j i2 w1 k m hjd h1 hk hm
    have hC1 := hC.ext h1
    obtain ⟨gc, gl, ⟨hx, hn, hc, hl, hgc, hgl, hn0, hn1, rx, rn, rc, rl, ⟨d1, d2, d3, d4, d5, d6⟩, ⟨d7, d8, d9, d10, d11, d12⟩⟩, hcd, hpl⟩ := hC1.1.opn g
    have h9 : j < 1000 := by omega
    have hlt : ¬ Int32.ofNat j < 6 := oNg (B := 6) h9 rfl (by omega)
    rw [eX1_isSound_2]
    repeat' first
      | with_reducible assumption
      | with_reducible refine And.intro ?_ ?_
      | with_reducible exact vpi6 (by assumption) (by assumption)
      | with_reducible exact vpi8 (by assumption) (by assumption)
      | with_reducible exact trivial
      | with_reducible exact go_5 hC1
      | with_reducible exact go_5 (hC1.ext x2)
      | with_reducible refine fX1_isSoundAlone hC1 (cdO ho hcd (j := j) (by omega) (by assumption)) (cdG hcd (j := j) (by omega) (by assumption)) (fun w2 x2 => ?_)
      | with_reducible refine fX1_isSameToAndFro (hC1.ext x2) ((cdG hcd (j := j) (by omega) (by assumption)).ext x2) ?_
      | with_reducible refine fX1_isEachFoundInPile hC1 ?_
      | with_reducible exact hQ _ h1
      | simp only [eX1_isSound_0, eX1_isSound_3, eX1_isSound_8, eX1_isSound_8N, eX1_isSound_9, eX1_isSound_12, eX1_isSound_14, eX1_isSound_14N, eX1_isSound_15, eX1_isSound_15N, eX1_isSound_16R, eX1_isSound_16N, eX1_isSound_19, eX1_isSound_19N, eX1_isSound_20, eX1_isSound_20N, eX1_isSound_21R, eX1_isSound_21N, eX1_isSound_24, eX1_isSound_27, eX1_isSound_27N, eX1_isSound_28, eX1_isSound_28N, eX1_isSound_29R, eX1_isSound_29N, eX1_isSound_32, eX1_isSound_35, eX1_isSound_37, eX1_isSound_43, eX1_isSound_43N, eX1_isSound_44, eX1_isSound_47, lgp, lgn, lgz, i10, i00, if_true, if_false, eq_self, not_true, not_false_eq_true, rx, rn, rc, rl, hx, hn, hc, hl, d1, d2, d3, d4, d5, d6, d7, d8, d9, d10, d11, d12, rd_n, upw_n, hlt, ite_le, n45, n54, true_or, or_true, false_or, or_false, false_and, and_false, kx_l, kx_r, go_s, gl_s, gi_s, gb_s2, gb_s3, gq_s, wt_nil, wt_int, wt_long, wt_ref, wt_null, nl_int, nl_long, nl_ref, nl_null, nl_none, rf_n, rf_s, rf_st, tl_s, tl_n, g0, gS, ex1, nb_b, nb_0, nb_1, nf_i, nf_l, nf_ra, nf_ro, nf_na, nf_no, nf_b0, nf_z0, t45_4, t45_5, true_and, and_true, List.set_cons_zero, List.set_cons_succ, List.length_cons, List.length_nil, rd_s, upw_s, ne_eq, not_false_eq_true, Nat.zero_add, Nat.add_zero]
      | split
      | with_reducible intro _
      | omega
  | succ d ih =>
    intro j i2 w1 k m hjd h1 hk hm
    have hC1 := hC.ext h1
    obtain ⟨gc, gl, ⟨hx, hn, hc, hl, hgc, hgl, hn0, hn1, rx, rn, rc, rl, ⟨d1, d2, d3, d4, d5, d6⟩, ⟨d7, d8, d9, d10, d11, d12⟩⟩, hcd, hpl⟩ := hC1.1.opn g
    have h9 : j < 1000 := by omega
    have hlt : Int32.ofNat j < 6 := oNl (B := 6) h9 rfl (by omega)
    have hnn := oN0 h9
    have hcl := oNc h9
    rw [eX1_isSound_2]
    repeat' first
      | with_reducible assumption
      | with_reducible refine And.intro ?_ ?_
      | with_reducible exact vpi6 (by assumption) (by assumption)
      | with_reducible exact vpi8 (by assumption) (by assumption)
      | with_reducible exact trivial
      | with_reducible exact go_5 hC1
      | with_reducible exact go_5 (hC1.ext x2)
      | with_reducible refine fX1_isSoundAlone hC1 (cdO ho hcd (j := j) (by omega) (by assumption)) (cdG hcd (j := j) (by omega) (by assumption)) (fun w2 x2 => ?_)
      | with_reducible refine fX1_isSameToAndFro (hC1.ext x2) ((cdG hcd (j := j) (by omega) (by assumption)).ext x2) ?_
      | with_reducible refine fX1_isEachFoundInPile hC1 ?_
      | with_reducible exact hQ _ h1
      | (rw [oN1]; exact ih (j + 1) _ _ _ _ (by omega) (h1.tr x2) (by omega) (by omega))
      | (rw [oN1]; exact ih (j + 1) _ _ _ _ (by omega) h1 (by omega) (by omega))
      | simp only [eX1_isSound_0, eX1_isSound_3, eX1_isSound_8, eX1_isSound_8N, eX1_isSound_9, eX1_isSound_12, eX1_isSound_14, eX1_isSound_14N, eX1_isSound_15, eX1_isSound_15N, eX1_isSound_16R, eX1_isSound_16N, eX1_isSound_19, eX1_isSound_19N, eX1_isSound_20, eX1_isSound_20N, eX1_isSound_21R, eX1_isSound_21N, eX1_isSound_24, eX1_isSound_27, eX1_isSound_27N, eX1_isSound_28, eX1_isSound_28N, eX1_isSound_29R, eX1_isSound_29N, eX1_isSound_32, eX1_isSound_35, eX1_isSound_37, eX1_isSound_43, eX1_isSound_43N, eX1_isSound_44, eX1_isSound_47, lgp, lgn, lgz, i10, i00, if_true, if_false, eq_self, not_true, not_false_eq_true, rx, rn, rc, rl, hx, hn, hc, hl, d1, d2, d3, d4, d5, d6, d7, d8, d9, d10, d11, d12, rd_n, upw_n, hlt, hcl, ite_le, n45, n54, true_or, or_true, false_or, or_false, false_and, and_false, kx_l, kx_r, go_s, gl_s, gi_s, gb_s2, gb_s3, gq_s, wt_nil, wt_int, wt_long, wt_ref, wt_null, nl_int, nl_long, nl_ref, nl_null, nl_none, rf_n, rf_s, rf_st, tl_s, tl_n, g0, gS, ex1, nb_b, nb_0, nb_1, nf_i, nf_l, nf_ra, nf_ro, nf_na, nf_no, nf_b0, nf_z0, t45_4, t45_5, true_and, and_true, List.set_cons_zero, List.set_cons_succ, List.length_cons, List.length_nil, rd_s, upw_s, ne_eq, not_false_eq_true, Nat.zero_add, Nat.add_zero]
      | split
      | with_reducible intro _
      | omega
set_option maxHeartbeats 4000000 in
theorem fX1_isSound {s : AS} (hC : CS g w0 x nA cA lA kn s w) (ho : sOk s) (hQ : ∀ w', ext g w w' → Q (.inl (some (.int 1))) w') : WP (MX1_isSound g) Q (0, [some (.ref x), none, none], [], w, 0, 0) := by
  repeat' first
    | with_reducible assumption
    | with_reducible refine And.intro ?_ ?_
    | with_reducible exact vpi6 (by assumption) (by assumption)
    | with_reducible exact vpi8 (by assumption) (by assumption)
    | with_reducible exact trivial
    | ((with_reducible refine isWP (pc := 2) ?_); exact flX1_isSound_2 hC ho hQ 6 0 _ w 0 0 rfl ext.rf (by decide) (by decide))
    | simp only [eX1_isSound_0, eX1_isSound_3, eX1_isSound_8, eX1_isSound_8N, eX1_isSound_9, eX1_isSound_12, eX1_isSound_14, eX1_isSound_14N, eX1_isSound_15, eX1_isSound_15N, eX1_isSound_16R, eX1_isSound_16N, eX1_isSound_19, eX1_isSound_19N, eX1_isSound_20, eX1_isSound_20N, eX1_isSound_21R, eX1_isSound_21N, eX1_isSound_24, eX1_isSound_27, eX1_isSound_27N, eX1_isSound_28, eX1_isSound_28N, eX1_isSound_29R, eX1_isSound_29N, eX1_isSound_32, eX1_isSound_35, eX1_isSound_37, eX1_isSound_43, eX1_isSound_43N, eX1_isSound_44, eX1_isSound_47, lgp, lgn, lgz, i10, i00, if_true, if_false, eq_self, not_true, not_false_eq_true, ite_le, n45, n54, true_or, or_true, false_or, or_false, false_and, and_false, kx_l, kx_r, go_s, gl_s, gi_s, gb_s2, gb_s3, gq_s, wt_nil, wt_int, wt_long, wt_ref, wt_null, nl_int, nl_long, nl_ref, nl_null, nl_none, rf_n, rf_s, rf_st, tl_s, tl_n, g0, gS, ex1, nb_b, nb_0, nb_1, nf_i, nf_l, nf_ra, nf_ro, nf_na, nf_no, nf_b0, nf_z0, t45_4, t45_5, true_and, and_true, List.set_cons_zero, List.set_cons_succ, List.length_cons, List.length_nil, rd_s, upw_s, ne_eq, not_false_eq_true, Nat.zero_add, Nat.add_zero]
    | split
    | with_reducible intro _
    | omega
end
end
/-! 71.fnd.lean.txt -/
section
section
variable {g : RO} {Q : Ot → Hw → Prop} {w0 w : Hw} {x nA cA lA : Nat} {kn : Int32}
/-- the class stands in some state whose ranges are in order -/
def CO (g : RO) (w0 : Hw) (x nA cA lA : Nat) (kn : Int32) (w : Hw) : Prop := ∃ s, sOk s ∧ CS g w0 x nA cA lA kn s w
theorem CO.cc (h : CO g w0 x nA cA lA kn w) : CC g w0 x nA cA lA kn w := by
  obtain ⟨s, -, h⟩ := h
  exact h.cc
theorem CO.ext {w' : Hw} (h : CO g w0 x nA cA lA kn w) (k : ext g w w') : CO g w0 x nA cA lA kn w' := by
  obtain ⟨s, ho, h⟩ := h
  exact ⟨s, ho, h.ext k⟩
theorem CO.mk {s : AS} (h : CS g w0 x nA cA lA kn s w) (ho : sOk s) : CO g w0 x nA cA lA kn w := ⟨s, ho, h⟩
theorem sOk.c' {s : AS} {a : Int32} {r : R4} (h : sOk s) (e : s.2.1 a.toNatClampNeg = some r) (k : okC a) : rOk r := h.c k e
theorem sOk.p' {s : AS} {a : Int32} (h : sOk s) (k : okP s.2.2.1 a) : rOk (s.2.2.2.1 a.toNatClampNeg) := h.2.1 _ (plB k)
theorem sOk.num {s : AS} {f : Nat → Int64} (h : sOk s) : sOk (sN s f) := h
theorem sOk.rf {s : AS} (h : sOk s) : sOk (sRf s) := h
theorem sOk.card {s : AS} {j : Nat} {r : R4} (h : sOk s) (hr : rOk r) : sOk (sC s (va_up s.2.1 j (some r))) := by
  refine ⟨fun i q hi e => ?_, h.2⟩
  have e' : va_up s.2.1 j (some r) i = some q := e
  unfold va_up at e'
  by_cases k : i = j
  · rw [if_pos k] at e'
    cases e'
    exact hr
  · rw [if_neg k] at e'
    exact h.1 i q hi e'
theorem sOk.card0 {s : AS} {j : Nat} (h : sOk s) : sOk (sC s (va_up s.2.1 j none)) := by
  refine ⟨fun i q hi e => ?_, h.2⟩
  have e' : va_up s.2.1 j none i = some q := e
  unfold va_up at e'
  by_cases k : i = j
  · rw [if_pos k] at e'
    cases e'
  · rw [if_neg k] at e'
    exact h.1 i q hi e'
theorem sOk.mk {s : AS} {j : Nat} {r : R4} (h : sOk s) (hr : rOk r) : sOk (sMk s j r) := h.card hr
theorem sOk.mkO {s : AS} {j : Nat} {a : Int32} {r : R4} (h : sOk s) (e : s.2.1 a.toNatClampNeg = some r) (k : okC a) : sOk (sMk s j (r.1, r.1, r.2.2.2, r.2.2.2)) := h.mk (oOut (r := r) (h.c k e))
theorem sOk.lay {s : AS} {r : R4} (h : sOk s) (hr : rOk r) (h11 : s.2.2.1 < 12) : sOk (sP_ s (s.2.2.1 + 1) (va_up s.2.2.2.1 s.2.2.1.toNatClampNeg r)) := by
  have q0 := i32_0 h.2.2.1
  have q1 := i32_lt h11
  have z : (12 : Int32).toInt = 12 := rfl
  have e1 : (s.2.2.1 + 1).toInt = s.2.2.1.toInt + 1 := i32p1 q0 (by omega)
  have t : s.2.2.1.toNatClampNeg = s.2.2.1.toInt.toNat := rfl
  refine ⟨h.1, fun i hi => ?_, i32_of_nlt (by show (0 : Int) ≤ (s.2.2.1 + 1).toInt; omega), i32_of_nlt (by show (s.2.2.1 + 1).toInt ≤ (12 : Int); omega)⟩
  have hi2 : (i : Int) < (s.2.2.1 + 1).toInt := hi
  show rOk (va_up s.2.2.2.1 s.2.2.1.toNatClampNeg r i)
  unfold va_up
  by_cases e : i = s.2.2.1.toNatClampNeg
  · rw [if_pos e]
    exact hr
  · rw [if_neg e]
    exact h.2.1 i (by omega)
theorem sOk.gap {s : AS} {p : Nat} (h : sOk s) (hp : p < s.2.2.1.toInt.toNat) : sOk (sP_ s (s.2.2.1 - 1) (rmv s.2.2.2.1 p)) := by
  have h0 := n0p hp
  have e1 := cg_sub h0
  refine ⟨h.1, fun i hi => ?_, cg3 h0, cg4 h0 h.2.2.2⟩
  have hi2 : (i : Int) < (s.2.2.1 - 1).toInt := hi
  show rOk (rmv s.2.2.2.1 p i)
  unfold rmv
  by_cases e : i < p
  · rw [if_pos e]
    exact h.2.1 i (by omega)
  · rw [if_neg e]
    exact h.2.1 (i + 1) (by omega)
theorem sOk.tur {s : AS} (h : sOk s) : sOk (sP_ s s.2.2.1 (rev s.2.2.2.1 s.2.2.1.toInt.toNat)) := by
  refine ⟨h.1, fun i hi => ?_, h.2.2⟩
  have hi2 : (i : Int) < s.2.2.1.toInt := hi
  exact h.2.1 (s.2.2.1.toInt.toNat - 1 - i) (by omega)
theorem sOk.zero {s : AS} {F : Nat → R4} (h : sOk s) : sOk (sP_ s 0 F) := by
  refine ⟨h.1, fun i hi => ?_, show ¬ (0 : Int32) < 0 by decide, show ¬ (12 : Int32) < 0 by decide⟩
  have hi2 : (i : Int) < (0 : Int32).toInt := hi
  have e0 : (0 : Int32).toInt = 0 := rfl
  omega
end
end
/-! 71.fne.lean.txt -/
section
section
variable {g : RO} {Q : Ot → Hw → Prop} {w0 w : Hw} {x nA cA lA : Nat} {kn : Int32}
def RFO (w : Hw) (x nA cA lA : Nat) (kn : Int32) : Prop := ∃ s, sOk s ∧ RF w x nA cA lA kn s
theorem RFO.rc (h : RFO w x nA cA lA kn) : RC w x nA cA lA kn := by
  obtain ⟨s, -, h⟩ := h
  exact h.rc
theorem z32 {i : Nat} (h : (i : Int) < (0 : Int32).toInt) : False := by
  have e0 : (0 : Int32).toInt = 0 := rfl
  omega
abbrev S00 : AS := (fun _ => 0, fun _ => none, 0, fun _ => (0, 0, 0, 0), 0, 0)
theorem S00_n {i : Nat} {r : R4} (e : S00.2.1 i = some r) : False := by
  have e' : (none : Option R4) = some r := e
  cases e'
theorem S00_ok : sOk S00 := ⟨fun i r hi e => (S00_n e).elim, fun i hi => (z32 hi).elim, show ¬ (0 : Int32) < 0 by decide, show ¬ (12 : Int32) < 0 by decide⟩
end
end
/-! 72.fq0.lean.txt -/
section
section
variable {g : RO} {Q : Ot → Hw → Prop} {w0 w : Hw} {x nA cA lA : Nat} {kn : Int32}
/-- the cards of which P is so, as bits -/
def cfold (o : Nat → Option R4) (P : R4 → Bool) : Nat → Int32
  | 0 => 0
  | j + 1 => if (o j).isSome && P (cD (o j)) then cfold o P j + ((1 : Int32) <<< (Int32.ofNat j &&& 31)) else cfold o P j
theorem cfT {o : Nat → Option R4} {P : R4 → Bool} {j : Nat} {r : R4} (e : o j = some r) (h : P r = true) : cfold o P j + ((1 : Int32) <<< (Int32.ofNat j &&& 31)) = cfold o P (j + 1) := by
  show _ = if (o j).isSome && P (cD (o j)) then cfold o P j + ((1 : Int32) <<< (Int32.ofNat j &&& 31)) else cfold o P j
  rw [e]
  show _ = if true && P r then _ else _
  rw [h]
  rfl
theorem cfF {o : Nat → Option R4} {P : R4 → Bool} {j : Nat} {r : R4} (e : o j = some r) (h : P r = false) : cfold o P j = cfold o P (j + 1) := by
  show _ = if (o j).isSome && P (cD (o j)) then cfold o P j + ((1 : Int32) <<< (Int32.ofNat j &&& 31)) else cfold o P j
  rw [e]
  show _ = if true && P r then _ else _
  rw [h]
  rfl
theorem cfN {o : Nat → Option R4} {P : R4 → Bool} {j : Nat} (e : o j = none) : cfold o P j = cfold o P (j + 1) := by
  show _ = if (o j).isSome && P (cD (o j)) then cfold o P j + ((1 : Int32) <<< (Int32.ofNat j &&& 31)) else cfold o P j
  rw [e]
  rfl
theorem cjN {gc : Nat → Option Nat} {s : AS} {j : Nat} (hcd : ∀ i, i < 6 → cM w (gc i) (s.2.1 i)) (h : j < 6) (e : gc j = none) : s.2.1 j = none := by
  have k := hcd j h
  rw [e] at k
  exact k.n
theorem cjS {gc : Nat → Option Nat} {s : AS} {j b : Nat} (hcd : ∀ i, i < 6 → cM w (gc i) (s.2.1 i)) (h : j < 6) (e : gc j = some b) : ∃ r, s.2.1 j = some r ∧ rAt w b r := by
  have k := hcd j h
  rw [e] at k
  exact k.s
def hoP (v : Int64) (b : Int32) (r : R4) : Bool := decide ((b = 0 ∨ sP r) ∧ hP r v)
def wiP (a : Int32) (r : R4) : Bool := if a = 1 then decide (fP r) else if a = 2 then decide (sP r) else true
def liP (q r : R4) : Bool := decide (mP q r)
theorem hashE {r q : R4} (h : mP r q) : hV r = hV q := by
  obtain ⟨r0, r1, r2, r3⟩ := r
  obtain ⟨q0, q1, q2, q3⟩ := q
  obtain ⟨h0, h1, h2, h3⟩ := h
  rw [show r0 = q0 from Int64.toInt_inj.mp h0, show r1 = q1 from Int64.toInt_inj.mp h1, show r2 = q2 from Int64.toInt_inj.mp h2, show r3 = q3 from Int64.toInt_inj.mp h3]
set_option maxHeartbeats 4000000 in
theorem flX1_holdersOf_6 {s : AS} {v : Int64} {b : Int32} (hC : CS g w0 x nA cA lA kn s w) (hQ : Q (.inl (some (.int (cfold s.2.1 (hoP v b) 6)))) w) : ∀ (d j : Nat) (i6 : Option Value) (k m : Nat), j + d = 6 → k ≤ 0 → m ≤ 0 → WP (MX1_holdersOf g) Q (6, [some (.ref x), some (.long v), none, some (.int b), some (.int (cfold s.2.1 (hoP v b) j)), some (.int (Int32.ofNat j)), i6], [], w, k, m) := by
  obtain ⟨gc, gl, ⟨hx, hn, hc, hl, hgc, hgl, hn0, hn1, rx, rn, rc, rl, ⟨d1, d2, d3, d4, d5, d6⟩, ⟨d7, d8, d9, d10, d11, d12⟩⟩, hcd, hpl⟩ := hC.1.opn g
  intro d
  induction d with
  | zero =>
    intro j i6 k m hjd hk hm
    have h9 : j < 1000 := (by omega)
    have hlt : ¬ Int32.ofNat j < 6 := oNg (B := 6) h9 rfl (by omega)
    have hnn := oN0 h9
    have hcl := oNc h9
    obtain rfl : j = 6 := by omega
    rw [eX1_holdersOf_6]
    repeat' first
      | with_reducible assumption
      | with_reducible refine And.intro ?_ ?_
      | with_reducible exact vpi6 (by assumption) (by assumption)
      | with_reducible exact vpi8 (by assumption) (by assumption)
      | with_reducible exact trivial
      | with_reducible exact go_F hp0 trivial
      | with_reducible refine fX0_holdsAs hp0 (fun hm => ?_) (fun hm => ?_)
      | (obtain ⟨r0, e0, hp0⟩ := cjS hcd (j := j) (by omega) (by assumption); with_reducible exact go_F hp0 trivial)
      | (obtain ⟨r0, e0, hp0⟩ := cjS hcd (j := j) (by omega) (by assumption); with_reducible refine fX0_holdsAs hp0 (fun hm => ?_) (fun hm => ?_))
      | (rw [oN1, cfN (o := s.2.1) (P := hoP v b) (cjN hcd (j := j) (by omega) (by assumption))]; exact ih (j + 1) _ _ _ (by omega) (by first | assumption | omega) (by first | assumption | omega))
      | (rw [oN1, cfT (o := s.2.1) (P := hoP v b) e0 (decide_eq_true hm)]; exact ih (j + 1) _ _ _ (by omega) (by first | assumption | omega) (by first | assumption | omega))
      | (rw [oN1, cfF (o := s.2.1) (P := hoP v b) e0 (decide_eq_false hm)]; exact ih (j + 1) _ _ _ (by omega) (by first | assumption | omega) (by first | assumption | omega))
      | ((with_reducible refine isQ (Q := Q) ?_); exact hQ)
      | simp only [eX1_holdersOf_0, eX1_holdersOf_8, eX1_holdersOf_13, eX1_holdersOf_13N, eX1_holdersOf_14, eX1_holdersOf_17, eX1_holdersOf_20, eX1_holdersOf_20N, eX1_holdersOf_22, eX1_holdersOf_22N, eX1_holdersOf_24R, eX1_holdersOf_24N, eX1_holdersOf_27, eX1_holdersOf_27N, eX1_holdersOf_29, eX1_holdersOf_34, eX1_holdersOf_37, eX1_holdersOf_46, eX1_holdersOf_52, lgp, lgn, lgz, i10, i00, if_true, if_false, eq_self, not_true, not_false_eq_true, hlt, hcl, rx, rn, rc, rl, hx, hn, hc, hl, d1, d2, d3, d4, d5, d6, d7, d8, d9, d10, d11, d12, rd_n, upw_n, ite_le, n45, n54, true_or, or_true, false_or, or_false, false_and, and_false, kx_l, kx_r, go_s, gl_s, gi_s, gb_s2, gb_s3, gq_s, wt_nil, wt_int, wt_long, wt_ref, wt_null, nl_int, nl_long, nl_ref, nl_null, nl_none, rf_n, rf_s, rf_st, tl_s, tl_n, g0, gS, ex1, nb_b, nb_0, nb_1, nf_i, nf_l, nf_ra, nf_ro, nf_na, nf_no, nf_b0, nf_z0, t45_4, t45_5, true_and, and_true, List.set_cons_zero, List.set_cons_succ, List.length_cons, List.length_nil, rd_s, upw_s, ne_eq, not_false_eq_true, Nat.zero_add, Nat.add_zero]
      | split
      | with_reducible intro _
      | omega
  | succ d ih =>
    intro j i6 k m hjd hk hm
    have h9 : j < 1000 := (by omega)
    have hlt : Int32.ofNat j < 6 := oNl (B := 6) h9 rfl (by omega)
    have hnn := oN0 h9
    have hcl := oNc h9
    rw [eX1_holdersOf_6]
    repeat' first
      | with_reducible assumption
      | with_reducible refine And.intro ?_ ?_
      | with_reducible exact vpi6 (by assumption) (by assumption)
      | with_reducible exact vpi8 (by assumption) (by assumption)
      | with_reducible exact trivial
      | (rw [oN1]; exact ih (j + 1) _ _ _ (by omega) (by first | assumption | omega) (by first | assumption | omega))
      | with_reducible exact go_F hp0 trivial
      | with_reducible refine fX0_holdsAs hp0 (fun hm => ?_) (fun hm => ?_)
      | (obtain ⟨r0, e0, hp0⟩ := cjS hcd (j := j) (by omega) (by assumption); with_reducible exact go_F hp0 trivial)
      | (obtain ⟨r0, e0, hp0⟩ := cjS hcd (j := j) (by omega) (by assumption); with_reducible refine fX0_holdsAs hp0 (fun hm => ?_) (fun hm => ?_))
      | (rw [oN1, cfN (o := s.2.1) (P := hoP v b) (cjN hcd (j := j) (by omega) (by assumption))]; exact ih (j + 1) _ _ _ (by omega) (by first | assumption | omega) (by first | assumption | omega))
      | (rw [oN1, cfT (o := s.2.1) (P := hoP v b) e0 (decide_eq_true hm)]; exact ih (j + 1) _ _ _ (by omega) (by first | assumption | omega) (by first | assumption | omega))
      | (rw [oN1, cfF (o := s.2.1) (P := hoP v b) e0 (decide_eq_false hm)]; exact ih (j + 1) _ _ _ (by omega) (by first | assumption | omega) (by first | assumption | omega))
      | ((with_reducible refine isQ (Q := Q) ?_); exact hQ)
      | simp only [eX1_holdersOf_0, eX1_holdersOf_8, eX1_holdersOf_13, eX1_holdersOf_13N, eX1_holdersOf_14, eX1_holdersOf_17, eX1_holdersOf_20, eX1_holdersOf_20N, eX1_holdersOf_22, eX1_holdersOf_22N, eX1_holdersOf_24R, eX1_holdersOf_24N, eX1_holdersOf_27, eX1_holdersOf_27N, eX1_holdersOf_29, eX1_holdersOf_34, eX1_holdersOf_37, eX1_holdersOf_46, eX1_holdersOf_52, lgp, lgn, lgz, i10, i00, if_true, if_false, eq_self, not_true, not_false_eq_true, hlt, hcl, rx, rn, rc, rl, hx, hn, hc, hl, d1, d2, d3, d4, d5, d6, d7, d8, d9, d10, d11, d12, rd_n, upw_n, ite_le, n45, n54, true_or, or_true, false_or, or_false, false_and, and_false, kx_l, kx_r, go_s, gl_s, gi_s, gb_s2, gb_s3, gq_s, wt_nil, wt_int, wt_long, wt_ref, wt_null, nl_int, nl_long, nl_ref, nl_null, nl_none, rf_n, rf_s, rf_st, tl_s, tl_n, g0, gS, ex1, nb_b, nb_0, nb_1, nf_i, nf_l, nf_ra, nf_ro, nf_na, nf_no, nf_b0, nf_z0, t45_4, t45_5, true_and, and_true, List.set_cons_zero, List.set_cons_succ, List.length_cons, List.length_nil, rd_s, upw_s, ne_eq, not_false_eq_true, Nat.zero_add, Nat.add_zero]
      | split
      | with_reducible intro _
      | omega
set_option maxHeartbeats 4000000 in
theorem fX1_holdersOf {s : AS} {v : Int64} {b : Int32} (hC : CS g w0 x nA cA lA kn s w) (hQ : Q (.inl (some (.int (cfold s.2.1 (hoP v b) 6)))) w) : WP (MX1_holdersOf g) Q (0, [some (.ref x), some (.long v), none, some (.int b), none, none, none], [], w, 0, 0) := by
  repeat' first
    | with_reducible assumption
    | with_reducible refine And.intro ?_ ?_
    | with_reducible exact vpi6 (by assumption) (by assumption)
    | with_reducible exact vpi8 (by assumption) (by assumption)
    | with_reducible exact trivial
    | ((with_reducible refine isWP (pc := 6) ?_); exact flX1_holdersOf_6 hC hQ 6 0 _ _ _ rfl (by decide) (by decide))
    | simp only [eX1_holdersOf_0, eX1_holdersOf_8, eX1_holdersOf_13, eX1_holdersOf_13N, eX1_holdersOf_14, eX1_holdersOf_17, eX1_holdersOf_20, eX1_holdersOf_20N, eX1_holdersOf_22, eX1_holdersOf_22N, eX1_holdersOf_24R, eX1_holdersOf_24N, eX1_holdersOf_27, eX1_holdersOf_27N, eX1_holdersOf_29, eX1_holdersOf_34, eX1_holdersOf_37, eX1_holdersOf_46, eX1_holdersOf_52, lgp, lgn, lgz, i10, i00, if_true, if_false, eq_self, not_true, not_false_eq_true, ite_le, n45, n54, true_or, or_true, false_or, or_false, false_and, and_false, kx_l, kx_r, go_s, gl_s, gi_s, gb_s2, gb_s3, gq_s, wt_nil, wt_int, wt_long, wt_ref, wt_null, nl_int, nl_long, nl_ref, nl_null, nl_none, rf_n, rf_s, rf_st, tl_s, tl_n, g0, gS, ex1, nb_b, nb_0, nb_1, nf_i, nf_l, nf_ra, nf_ro, nf_na, nf_no, nf_b0, nf_z0, t45_4, t45_5, true_and, and_true, List.set_cons_zero, List.set_cons_succ, List.length_cons, List.length_nil, rd_s, upw_s, ne_eq, not_false_eq_true, Nat.zero_add, Nat.add_zero]
    | split
    | with_reducible intro _
    | omega
theorem wiT1 {a : Int32} {r : R4} (h : a = 1) (k : fP r) : wiP a r = true := by
  unfold wiP
  rw [if_pos h]
  exact decide_eq_true k
theorem wiF1 {a : Int32} {r : R4} (h : a = 1) (k : ¬ fP r) : wiP a r = false := by
  unfold wiP
  rw [if_pos h]
  exact decide_eq_false k
theorem n12n {a : Int32} (h : a = 2) : ¬ a = 1 := by
  subst h
  decide
theorem wiT2 {a : Int32} {r : R4} (h : a = 2) (k : sP r) : wiP a r = true := by
  unfold wiP
  rw [if_neg (n12n h), if_pos h]
  exact decide_eq_true k
theorem wiF2 {a : Int32} {r : R4} (h : a = 2) (k : ¬ sP r) : wiP a r = false := by
  unfold wiP
  rw [if_neg (n12n h), if_pos h]
  exact decide_eq_false k
theorem sm3 {a : Int32} (h : okW a 2) : a = 0 ∨ a = 1 ∨ a = 2 := by
  have h0 := i32_0 h.1
  have h1 := i32_nlt h.2
  have e2 : (2 : Int32).toInt = 2 := rfl
  rcases (by omega : a.toInt = 0 ∨ a.toInt = 1 ∨ a.toInt = 2) with e | e | e
  · exact Or.inl (i32_eq e)
  · exact Or.inr (Or.inl (i32_eq e))
  · exact Or.inr (Or.inr (i32_eq e))
set_option maxHeartbeats 4000000 in
theorem fX1_isSo {p : Nat} {r : R4} {a : Int32} (hp : rAt w p r) (hw : okW a 2) (hT : wiP a r = true → Q (.inl (some (.int 1))) w) (hF : wiP a r = false → Q (.inl (some (.int 0))) w) : WP (MX1_isSo g) Q (0, [some (.ref p), some (.int a)], [], w, 0, 0) := by
  rcases sm3 hw with rfl | rfl | rfl
  · skip
    repeat' first
      | with_reducible assumption
      | with_reducible refine And.intro ?_ ?_
      | with_reducible exact vpi6 (by assumption) (by assumption)
      | with_reducible exact vpi8 (by assumption) (by assumption)
      | with_reducible refine fX0_isSettled hp (fun hm => ?_) (fun hm => ?_)
      | with_reducible refine fX0_fitsSmall hp (fun hm => ?_) (fun hm => ?_)
      | with_reducible exact go_F hp trivial
      | ((with_reducible refine isQ (Q := Q) ?_); exact hT (decide_eq_true hm))
      | ((with_reducible refine isQ (Q := Q) ?_); exact hF (decide_eq_false hm))
      | ((with_reducible refine isQ (Q := Q) ?_); exact hT rfl)
      | simp only [eX1_isSo_0, eX1_isSo_1_0, eX1_isSo_1_1, eX1_isSo_1_2, eX1_isSo_1_3, eX1_isSo_1_4, eX1_isSo_28, eX1_isSo_28N, eX1_isSo_29, eX1_isSo_32, eX1_isSo_33, eX1_isSo_33N, eX1_isSo_34, eX1_isSo_37, eX1_isSo_38, lgp, lgn, lgz, i10, i00, if_true, if_false, eq_self, not_true, not_false_eq_true, ite_le, n45, n54, true_or, or_true, false_or, or_false, false_and, and_false, kx_l, kx_r, go_s, gl_s, gi_s, gb_s2, gb_s3, gq_s, wt_nil, wt_int, wt_long, wt_ref, wt_null, nl_int, nl_long, nl_ref, nl_null, nl_none, rf_n, rf_s, rf_st, tl_s, tl_n, g0, gS, ex1, nb_b, nb_0, nb_1, nf_i, nf_l, nf_ra, nf_ro, nf_na, nf_no, nf_b0, nf_z0, t45_4, t45_5, true_and, and_true, List.set_cons_zero, List.set_cons_succ, List.length_cons, List.length_nil, rd_s, upw_s, ne_eq, not_false_eq_true, Nat.zero_add, Nat.add_zero]
      | split
      | with_reducible intro _
      | omega
  · skip
    repeat' first
      | with_reducible assumption
      | with_reducible refine And.intro ?_ ?_
      | with_reducible exact vpi6 (by assumption) (by assumption)
      | with_reducible exact vpi8 (by assumption) (by assumption)
      | with_reducible refine fX0_isSettled hp (fun hm => ?_) (fun hm => ?_)
      | with_reducible refine fX0_fitsSmall hp (fun hm => ?_) (fun hm => ?_)
      | with_reducible exact go_F hp trivial
      | ((with_reducible refine isQ (Q := Q) ?_); exact hT (decide_eq_true hm))
      | ((with_reducible refine isQ (Q := Q) ?_); exact hF (decide_eq_false hm))
      | ((with_reducible refine isQ (Q := Q) ?_); exact hT rfl)
      | simp only [eX1_isSo_0, eX1_isSo_1_0, eX1_isSo_1_1, eX1_isSo_1_2, eX1_isSo_1_3, eX1_isSo_1_4, eX1_isSo_28, eX1_isSo_28N, eX1_isSo_29, eX1_isSo_32, eX1_isSo_33, eX1_isSo_33N, eX1_isSo_34, eX1_isSo_37, eX1_isSo_38, lgp, lgn, lgz, i10, i00, if_true, if_false, eq_self, not_true, not_false_eq_true, ite_le, n45, n54, true_or, or_true, false_or, or_false, false_and, and_false, kx_l, kx_r, go_s, gl_s, gi_s, gb_s2, gb_s3, gq_s, wt_nil, wt_int, wt_long, wt_ref, wt_null, nl_int, nl_long, nl_ref, nl_null, nl_none, rf_n, rf_s, rf_st, tl_s, tl_n, g0, gS, ex1, nb_b, nb_0, nb_1, nf_i, nf_l, nf_ra, nf_ro, nf_na, nf_no, nf_b0, nf_z0, t45_4, t45_5, true_and, and_true, List.set_cons_zero, List.set_cons_succ, List.length_cons, List.length_nil, rd_s, upw_s, ne_eq, not_false_eq_true, Nat.zero_add, Nat.add_zero]
      | split
      | with_reducible intro _
      | omega
  · skip
    repeat' first
      | with_reducible assumption
      | with_reducible refine And.intro ?_ ?_
      | with_reducible exact vpi6 (by assumption) (by assumption)
      | with_reducible exact vpi8 (by assumption) (by assumption)
      | with_reducible refine fX0_isSettled hp (fun hm => ?_) (fun hm => ?_)
      | with_reducible refine fX0_fitsSmall hp (fun hm => ?_) (fun hm => ?_)
      | with_reducible exact go_F hp trivial
      | ((with_reducible refine isQ (Q := Q) ?_); exact hT (decide_eq_true hm))
      | ((with_reducible refine isQ (Q := Q) ?_); exact hF (decide_eq_false hm))
      | ((with_reducible refine isQ (Q := Q) ?_); exact hT rfl)
      | simp only [eX1_isSo_0, eX1_isSo_1_0, eX1_isSo_1_1, eX1_isSo_1_2, eX1_isSo_1_3, eX1_isSo_1_4, eX1_isSo_28, eX1_isSo_28N, eX1_isSo_29, eX1_isSo_32, eX1_isSo_33, eX1_isSo_33N, eX1_isSo_34, eX1_isSo_37, eX1_isSo_38, lgp, lgn, lgz, i10, i00, if_true, if_false, eq_self, not_true, not_false_eq_true, ite_le, n45, n54, true_or, or_true, false_or, or_false, false_and, and_false, kx_l, kx_r, go_s, gl_s, gi_s, gb_s2, gb_s3, gq_s, wt_nil, wt_int, wt_long, wt_ref, wt_null, nl_int, nl_long, nl_ref, nl_null, nl_none, rf_n, rf_s, rf_st, tl_s, tl_n, g0, gS, ex1, nb_b, nb_0, nb_1, nf_i, nf_l, nf_ra, nf_ro, nf_na, nf_no, nf_b0, nf_z0, t45_4, t45_5, true_and, and_true, List.set_cons_zero, List.set_cons_succ, List.length_cons, List.length_nil, rd_s, upw_s, ne_eq, not_false_eq_true, Nat.zero_add, Nat.add_zero]
      | split
      | with_reducible intro _
      | omega
set_option maxHeartbeats 4000000 in
theorem flX1_cardsThatAre_4 {s : AS} {a : Int32} (hC : CS g w0 x nA cA lA kn s w) (hw : okW a 2) (hQ : Q (.inl (some (.int (cfold s.2.1 (wiP a) 6)))) w) : ∀ (d j : Nat) (i4 : Option Value) (k m : Nat), j + d = 6 → k ≤ 0 → m ≤ 0 → WP (MX1_cardsThatAre g) Q (4, [some (.ref x), some (.int a), some (.int (cfold s.2.1 (wiP a) j)), some (.int (Int32.ofNat j)), i4], [], w, k, m) := by
  obtain ⟨gc, gl, ⟨hx, hn, hc, hl, hgc, hgl, hn0, hn1, rx, rn, rc, rl, ⟨d1, d2, d3, d4, d5, d6⟩, ⟨d7, d8, d9, d10, d11, d12⟩⟩, hcd, hpl⟩ := hC.1.opn g
  intro d
  induction d with
  | zero =>
    intro j i4 k m hjd hk hm
    have h9 : j < 1000 := (by omega)
    have hlt : ¬ Int32.ofNat j < 6 := oNg (B := 6) h9 rfl (by omega)
    have hnn := oN0 h9
    have hcl := oNc h9
    obtain rfl : j = 6 := by omega
    rw [eX1_cardsThatAre_4]
    repeat' first
      | with_reducible assumption
      | with_reducible refine And.intro ?_ ?_
      | with_reducible exact vpi6 (by assumption) (by assumption)
      | with_reducible exact vpi8 (by assumption) (by assumption)
      | with_reducible exact trivial
      | with_reducible exact go_F hp0 trivial
      | with_reducible refine fX1_isSo hp0 hw (fun hm => ?_) (fun hm => ?_)
      | (obtain ⟨r0, e0, hp0⟩ := cjS hcd (j := j) (by omega) (by assumption); with_reducible exact go_F hp0 trivial)
      | (obtain ⟨r0, e0, hp0⟩ := cjS hcd (j := j) (by omega) (by assumption); with_reducible refine fX1_isSo hp0 hw (fun hm => ?_) (fun hm => ?_))
      | (rw [oN1, cfN (o := s.2.1) (P := wiP a) (cjN hcd (j := j) (by omega) (by assumption))]; exact ih (j + 1) _ _ _ (by omega) (by first | assumption | omega) (by first | assumption | omega))
      | (rw [oN1, cfT (o := s.2.1) (P := wiP a) e0 (hm)]; exact ih (j + 1) _ _ _ (by omega) (by first | assumption | omega) (by first | assumption | omega))
      | (rw [oN1, cfF (o := s.2.1) (P := wiP a) e0 (hm)]; exact ih (j + 1) _ _ _ (by omega) (by first | assumption | omega) (by first | assumption | omega))
      | ((with_reducible refine isQ (Q := Q) ?_); exact hQ)
      | simp only [eX1_cardsThatAre_0, eX1_cardsThatAre_5, eX1_cardsThatAre_10, eX1_cardsThatAre_10N, eX1_cardsThatAre_11, eX1_cardsThatAre_14, eX1_cardsThatAre_16, eX1_cardsThatAre_16N, eX1_cardsThatAre_18, eX1_cardsThatAre_18N, eX1_cardsThatAre_20R, eX1_cardsThatAre_20N, eX1_cardsThatAre_23, eX1_cardsThatAre_23N, eX1_cardsThatAre_25, eX1_cardsThatAre_26R, eX1_cardsThatAre_26N, eX1_cardsThatAre_29, eX1_cardsThatAre_32, eX1_cardsThatAre_38, eX1_cardsThatAre_44, lgp, lgn, lgz, i10, i00, if_true, if_false, eq_self, not_true, not_false_eq_true, hlt, hcl, rx, rn, rc, rl, hx, hn, hc, hl, d1, d2, d3, d4, d5, d6, d7, d8, d9, d10, d11, d12, rd_n, upw_n, ite_le, n45, n54, true_or, or_true, false_or, or_false, false_and, and_false, kx_l, kx_r, go_s, gl_s, gi_s, gb_s2, gb_s3, gq_s, wt_nil, wt_int, wt_long, wt_ref, wt_null, nl_int, nl_long, nl_ref, nl_null, nl_none, rf_n, rf_s, rf_st, tl_s, tl_n, g0, gS, ex1, nb_b, nb_0, nb_1, nf_i, nf_l, nf_ra, nf_ro, nf_na, nf_no, nf_b0, nf_z0, t45_4, t45_5, true_and, and_true, List.set_cons_zero, List.set_cons_succ, List.length_cons, List.length_nil, rd_s, upw_s, ne_eq, not_false_eq_true, Nat.zero_add, Nat.add_zero]
      | split
      | with_reducible intro _
      | omega
  | succ d ih =>
    intro j i4 k m hjd hk hm
    have h9 : j < 1000 := (by omega)
    have hlt : Int32.ofNat j < 6 := oNl (B := 6) h9 rfl (by omega)
    have hnn := oN0 h9
    have hcl := oNc h9
    rw [eX1_cardsThatAre_4]
    repeat' first
      | with_reducible assumption
      | with_reducible refine And.intro ?_ ?_
      | with_reducible exact vpi6 (by assumption) (by assumption)
      | with_reducible exact vpi8 (by assumption) (by assumption)
      | with_reducible exact trivial
      | (rw [oN1]; exact ih (j + 1) _ _ _ (by omega) (by first | assumption | omega) (by first | assumption | omega))
      | with_reducible exact go_F hp0 trivial
      | with_reducible refine fX1_isSo hp0 hw (fun hm => ?_) (fun hm => ?_)
      | (obtain ⟨r0, e0, hp0⟩ := cjS hcd (j := j) (by omega) (by assumption); with_reducible exact go_F hp0 trivial)
      | (obtain ⟨r0, e0, hp0⟩ := cjS hcd (j := j) (by omega) (by assumption); with_reducible refine fX1_isSo hp0 hw (fun hm => ?_) (fun hm => ?_))
      | (rw [oN1, cfN (o := s.2.1) (P := wiP a) (cjN hcd (j := j) (by omega) (by assumption))]; exact ih (j + 1) _ _ _ (by omega) (by first | assumption | omega) (by first | assumption | omega))
      | (rw [oN1, cfT (o := s.2.1) (P := wiP a) e0 (hm)]; exact ih (j + 1) _ _ _ (by omega) (by first | assumption | omega) (by first | assumption | omega))
      | (rw [oN1, cfF (o := s.2.1) (P := wiP a) e0 (hm)]; exact ih (j + 1) _ _ _ (by omega) (by first | assumption | omega) (by first | assumption | omega))
      | ((with_reducible refine isQ (Q := Q) ?_); exact hQ)
      | simp only [eX1_cardsThatAre_0, eX1_cardsThatAre_5, eX1_cardsThatAre_10, eX1_cardsThatAre_10N, eX1_cardsThatAre_11, eX1_cardsThatAre_14, eX1_cardsThatAre_16, eX1_cardsThatAre_16N, eX1_cardsThatAre_18, eX1_cardsThatAre_18N, eX1_cardsThatAre_20R, eX1_cardsThatAre_20N, eX1_cardsThatAre_23, eX1_cardsThatAre_23N, eX1_cardsThatAre_25, eX1_cardsThatAre_26R, eX1_cardsThatAre_26N, eX1_cardsThatAre_29, eX1_cardsThatAre_32, eX1_cardsThatAre_38, eX1_cardsThatAre_44, lgp, lgn, lgz, i10, i00, if_true, if_false, eq_self, not_true, not_false_eq_true, hlt, hcl, rx, rn, rc, rl, hx, hn, hc, hl, d1, d2, d3, d4, d5, d6, d7, d8, d9, d10, d11, d12, rd_n, upw_n, ite_le, n45, n54, true_or, or_true, false_or, or_false, false_and, and_false, kx_l, kx_r, go_s, gl_s, gi_s, gb_s2, gb_s3, gq_s, wt_nil, wt_int, wt_long, wt_ref, wt_null, nl_int, nl_long, nl_ref, nl_null, nl_none, rf_n, rf_s, rf_st, tl_s, tl_n, g0, gS, ex1, nb_b, nb_0, nb_1, nf_i, nf_l, nf_ra, nf_ro, nf_na, nf_no, nf_b0, nf_z0, t45_4, t45_5, true_and, and_true, List.set_cons_zero, List.set_cons_succ, List.length_cons, List.length_nil, rd_s, upw_s, ne_eq, not_false_eq_true, Nat.zero_add, Nat.add_zero]
      | split
      | with_reducible intro _
      | omega
set_option maxHeartbeats 4000000 in
theorem fX1_cardsThatAre {s : AS} {a : Int32} (hC : CS g w0 x nA cA lA kn s w) (hw : okW a 2) (hQ : Q (.inl (some (.int (cfold s.2.1 (wiP a) 6)))) w) : WP (MX1_cardsThatAre g) Q (0, [some (.ref x), some (.int a), none, none, none], [], w, 0, 0) := by
  repeat' first
    | with_reducible assumption
    | with_reducible refine And.intro ?_ ?_
    | with_reducible exact vpi6 (by assumption) (by assumption)
    | with_reducible exact vpi8 (by assumption) (by assumption)
    | with_reducible exact trivial
    | ((with_reducible refine isWP (pc := 4) ?_); exact flX1_cardsThatAre_4 hC hw hQ 6 0 _ _ _ rfl (by decide) (by decide))
    | simp only [eX1_cardsThatAre_0, eX1_cardsThatAre_5, eX1_cardsThatAre_10, eX1_cardsThatAre_10N, eX1_cardsThatAre_11, eX1_cardsThatAre_14, eX1_cardsThatAre_16, eX1_cardsThatAre_16N, eX1_cardsThatAre_18, eX1_cardsThatAre_18N, eX1_cardsThatAre_20R, eX1_cardsThatAre_20N, eX1_cardsThatAre_23, eX1_cardsThatAre_23N, eX1_cardsThatAre_25, eX1_cardsThatAre_26R, eX1_cardsThatAre_26N, eX1_cardsThatAre_29, eX1_cardsThatAre_32, eX1_cardsThatAre_38, eX1_cardsThatAre_44, lgp, lgn, lgz, i10, i00, if_true, if_false, eq_self, not_true, not_false_eq_true, ite_le, n45, n54, true_or, or_true, false_or, or_false, false_and, and_false, kx_l, kx_r, go_s, gl_s, gi_s, gb_s2, gb_s3, gq_s, wt_nil, wt_int, wt_long, wt_ref, wt_null, nl_int, nl_long, nl_ref, nl_null, nl_none, rf_n, rf_s, rf_st, tl_s, tl_n, g0, gS, ex1, nb_b, nb_0, nb_1, nf_i, nf_l, nf_ra, nf_ro, nf_na, nf_no, nf_b0, nf_z0, t45_4, t45_5, true_and, and_true, List.set_cons_zero, List.set_cons_succ, List.length_cons, List.length_nil, rd_s, upw_s, ne_eq, not_false_eq_true, Nat.zero_add, Nat.add_zero]
    | split
    | with_reducible intro _
    | omega
theorem hashT {r q : R4} (h : mP r q) : (hV r).toInt = (hV q).toInt := congrArg Int64.toInt (hashE h)
set_option maxHeartbeats 4000000 in
theorem flX1_cardsLike_4 {s : AS} {p : Nat} {r : R4} (hC : CS g w0 x nA cA lA kn s w) (hp : rAt w p r) (hQ : Q (.inl (some (.int (cfold s.2.1 (liP r) 6)))) w) : ∀ (d j : Nat) (i4 : Option Value) (k m : Nat), j + d = 6 → k ≤ 0 → m ≤ 0 → WP (MX1_cardsLike g) Q (4, [some (.ref x), some (.ref p), some (.int (cfold s.2.1 (liP r) j)), some (.int (Int32.ofNat j)), i4], [], w, k, m) := by
  obtain ⟨gc, gl, ⟨hx, hn, hc, hl, hgc, hgl, hn0, hn1, rx, rn, rc, rl, ⟨d1, d2, d3, d4, d5, d6⟩, ⟨d7, d8, d9, d10, d11, d12⟩⟩, hcd, hpl⟩ := hC.1.opn g
  intro d
  induction d with
  | zero =>
    intro j i4 k m hjd hk hm
    have h9 : j < 1000 := (by omega)
    have hlt : ¬ Int32.ofNat j < 6 := oNg (B := 6) h9 rfl (by omega)
    have hnn := oN0 h9
    have hcl := oNc h9
    obtain rfl : j = 6 := by omega
    rw [eX1_cardsLike_4]
    repeat' first
      | with_reducible assumption
      | with_reducible refine And.intro ?_ ?_
      | with_reducible exact vpi6 (by assumption) (by assumption)
      | with_reducible exact vpi8 (by assumption) (by assumption)
      | with_reducible exact trivial
      | with_reducible exact go_F hp trivial
      | with_reducible refine fX0_hash hp ?_
      | with_reducible exact absurd (hashT hm) (by assumption)
      | with_reducible exact go_F hp0 trivial
      | with_reducible refine fX0_matchesR hp hp0 (fun hm => ?_) (fun hm => ?_)
      | with_reducible refine fX0_hash hp0 ?_
      | (obtain ⟨r0, e0, hp0⟩ := cjS hcd (j := j) (by omega) (by assumption); with_reducible exact go_F hp0 trivial)
      | (obtain ⟨r0, e0, hp0⟩ := cjS hcd (j := j) (by omega) (by assumption); with_reducible refine fX0_matchesR hp hp0 (fun hm => ?_) (fun hm => ?_))
      | (obtain ⟨r0, e0, hp0⟩ := cjS hcd (j := j) (by omega) (by assumption); with_reducible refine fX0_hash hp0 ?_)
      | (rw [oN1, cfN (o := s.2.1) (P := liP r) (cjN hcd (j := j) (by omega) (by assumption))]; exact ih (j + 1) _ _ _ (by omega) (by first | assumption | omega) (by first | assumption | omega))
      | (rw [oN1, cfT (o := s.2.1) (P := liP r) e0 (decide_eq_true hm)]; exact ih (j + 1) _ _ _ (by omega) (by first | assumption | omega) (by first | assumption | omega))
      | (rw [oN1, cfF (o := s.2.1) (P := liP r) e0 (decide_eq_false hm)]; exact ih (j + 1) _ _ _ (by omega) (by first | assumption | omega) (by first | assumption | omega))
      | ((with_reducible refine isQ (Q := Q) ?_); exact hQ)
      | simp only [eX1_cardsLike_0, eX1_cardsLike_5, eX1_cardsLike_10, eX1_cardsLike_10N, eX1_cardsLike_11, eX1_cardsLike_14, eX1_cardsLike_16, eX1_cardsLike_16N, eX1_cardsLike_18, eX1_cardsLike_18N, eX1_cardsLike_20R, eX1_cardsLike_20N, eX1_cardsLike_23, eX1_cardsLike_23N, eX1_cardsLike_24, eX1_cardsLike_24N, eX1_cardsLike_26R, eX1_cardsLike_26N, eX1_cardsLike_29, eX1_cardsLike_32, eX1_cardsLike_32N, eX1_cardsLike_33, eX1_cardsLike_36, eX1_cardsLike_36N, eX1_cardsLike_38, eX1_cardsLike_41, eX1_cardsLike_45, eX1_cardsLike_51, eX1_cardsLike_57, lgp, lgn, lgz, i10, i00, if_true, if_false, eq_self, not_true, not_false_eq_true, hlt, hcl, rx, rn, rc, rl, hx, hn, hc, hl, d1, d2, d3, d4, d5, d6, d7, d8, d9, d10, d11, d12, rd_n, upw_n, ite_le, n45, n54, true_or, or_true, false_or, or_false, false_and, and_false, kx_l, kx_r, go_s, gl_s, gi_s, gb_s2, gb_s3, gq_s, wt_nil, wt_int, wt_long, wt_ref, wt_null, nl_int, nl_long, nl_ref, nl_null, nl_none, rf_n, rf_s, rf_st, tl_s, tl_n, g0, gS, ex1, nb_b, nb_0, nb_1, nf_i, nf_l, nf_ra, nf_ro, nf_na, nf_no, nf_b0, nf_z0, t45_4, t45_5, true_and, and_true, List.set_cons_zero, List.set_cons_succ, List.length_cons, List.length_nil, rd_s, upw_s, ne_eq, not_false_eq_true, Nat.zero_add, Nat.add_zero]
      | split
      | with_reducible intro _
      | omega
  | succ d ih =>
    intro j i4 k m hjd hk hm
    have h9 : j < 1000 := (by omega)
    have hlt : Int32.ofNat j < 6 := oNl (B := 6) h9 rfl (by omega)
    have hnn := oN0 h9
    have hcl := oNc h9
    rw [eX1_cardsLike_4]
    repeat' first
      | with_reducible assumption
      | with_reducible refine And.intro ?_ ?_
      | with_reducible exact vpi6 (by assumption) (by assumption)
      | with_reducible exact vpi8 (by assumption) (by assumption)
      | with_reducible exact trivial
      | with_reducible exact go_F hp trivial
      | with_reducible refine fX0_hash hp ?_
      | with_reducible exact absurd (hashT hm) (by assumption)
      | (rw [oN1]; exact ih (j + 1) _ _ _ (by omega) (by first | assumption | omega) (by first | assumption | omega))
      | with_reducible exact go_F hp0 trivial
      | with_reducible refine fX0_matchesR hp hp0 (fun hm => ?_) (fun hm => ?_)
      | with_reducible refine fX0_hash hp0 ?_
      | (obtain ⟨r0, e0, hp0⟩ := cjS hcd (j := j) (by omega) (by assumption); with_reducible exact go_F hp0 trivial)
      | (obtain ⟨r0, e0, hp0⟩ := cjS hcd (j := j) (by omega) (by assumption); with_reducible refine fX0_matchesR hp hp0 (fun hm => ?_) (fun hm => ?_))
      | (obtain ⟨r0, e0, hp0⟩ := cjS hcd (j := j) (by omega) (by assumption); with_reducible refine fX0_hash hp0 ?_)
      | (rw [oN1, cfN (o := s.2.1) (P := liP r) (cjN hcd (j := j) (by omega) (by assumption))]; exact ih (j + 1) _ _ _ (by omega) (by first | assumption | omega) (by first | assumption | omega))
      | (rw [oN1, cfT (o := s.2.1) (P := liP r) e0 (decide_eq_true hm)]; exact ih (j + 1) _ _ _ (by omega) (by first | assumption | omega) (by first | assumption | omega))
      | (rw [oN1, cfF (o := s.2.1) (P := liP r) e0 (decide_eq_false hm)]; exact ih (j + 1) _ _ _ (by omega) (by first | assumption | omega) (by first | assumption | omega))
      | ((with_reducible refine isQ (Q := Q) ?_); exact hQ)
      | simp only [eX1_cardsLike_0, eX1_cardsLike_5, eX1_cardsLike_10, eX1_cardsLike_10N, eX1_cardsLike_11, eX1_cardsLike_14, eX1_cardsLike_16, eX1_cardsLike_16N, eX1_cardsLike_18, eX1_cardsLike_18N, eX1_cardsLike_20R, eX1_cardsLike_20N, eX1_cardsLike_23, eX1_cardsLike_23N, eX1_cardsLike_24, eX1_cardsLike_24N, eX1_cardsLike_26R, eX1_cardsLike_26N, eX1_cardsLike_29, eX1_cardsLike_32, eX1_cardsLike_32N, eX1_cardsLike_33, eX1_cardsLike_36, eX1_cardsLike_36N, eX1_cardsLike_38, eX1_cardsLike_41, eX1_cardsLike_45, eX1_cardsLike_51, eX1_cardsLike_57, lgp, lgn, lgz, i10, i00, if_true, if_false, eq_self, not_true, not_false_eq_true, hlt, hcl, rx, rn, rc, rl, hx, hn, hc, hl, d1, d2, d3, d4, d5, d6, d7, d8, d9, d10, d11, d12, rd_n, upw_n, ite_le, n45, n54, true_or, or_true, false_or, or_false, false_and, and_false, kx_l, kx_r, go_s, gl_s, gi_s, gb_s2, gb_s3, gq_s, wt_nil, wt_int, wt_long, wt_ref, wt_null, nl_int, nl_long, nl_ref, nl_null, nl_none, rf_n, rf_s, rf_st, tl_s, tl_n, g0, gS, ex1, nb_b, nb_0, nb_1, nf_i, nf_l, nf_ra, nf_ro, nf_na, nf_no, nf_b0, nf_z0, t45_4, t45_5, true_and, and_true, List.set_cons_zero, List.set_cons_succ, List.length_cons, List.length_nil, rd_s, upw_s, ne_eq, not_false_eq_true, Nat.zero_add, Nat.add_zero]
      | split
      | with_reducible intro _
      | omega
set_option maxHeartbeats 4000000 in
theorem fX1_cardsLike {s : AS} {p : Nat} {r : R4} (hC : CS g w0 x nA cA lA kn s w) (hp : rAt w p r) (hQ : Q (.inl (some (.int (cfold s.2.1 (liP r) 6)))) w) : WP (MX1_cardsLike g) Q (0, [some (.ref x), some (.ref p), none, none, none], [], w, 0, 0) := by
  repeat' first
    | with_reducible assumption
    | with_reducible refine And.intro ?_ ?_
    | with_reducible exact vpi6 (by assumption) (by assumption)
    | with_reducible exact vpi8 (by assumption) (by assumption)
    | with_reducible exact trivial
    | ((with_reducible refine isWP (pc := 4) ?_); exact flX1_cardsLike_4 hC hp hQ 6 0 _ _ _ rfl (by decide) (by decide))
    | simp only [eX1_cardsLike_0, eX1_cardsLike_5, eX1_cardsLike_10, eX1_cardsLike_10N, eX1_cardsLike_11, eX1_cardsLike_14, eX1_cardsLike_16, eX1_cardsLike_16N, eX1_cardsLike_18, eX1_cardsLike_18N, eX1_cardsLike_20R, eX1_cardsLike_20N, eX1_cardsLike_23, eX1_cardsLike_23N, eX1_cardsLike_24, eX1_cardsLike_24N, eX1_cardsLike_26R, eX1_cardsLike_26N, eX1_cardsLike_29, eX1_cardsLike_32, eX1_cardsLike_32N, eX1_cardsLike_33, eX1_cardsLike_36, eX1_cardsLike_36N, eX1_cardsLike_38, eX1_cardsLike_41, eX1_cardsLike_45, eX1_cardsLike_51, eX1_cardsLike_57, lgp, lgn, lgz, i10, i00, if_true, if_false, eq_self, not_true, not_false_eq_true, ite_le, n45, n54, true_or, or_true, false_or, or_false, false_and, and_false, kx_l, kx_r, go_s, gl_s, gi_s, gb_s2, gb_s3, gq_s, wt_nil, wt_int, wt_long, wt_ref, wt_null, nl_int, nl_long, nl_ref, nl_null, nl_none, rf_n, rf_s, rf_st, tl_s, tl_n, g0, gS, ex1, nb_b, nb_0, nb_1, nf_i, nf_l, nf_ra, nf_ro, nf_na, nf_no, nf_b0, nf_z0, t45_4, t45_5, true_and, and_true, List.set_cons_zero, List.set_cons_succ, List.length_cons, List.length_nil, rd_s, upw_s, ne_eq, not_false_eq_true, Nat.zero_add, Nat.add_zero]
    | split
    | with_reducible intro _
    | omega
theorem sm5 {a : Int32} (h : okW a 4) : a = 0 ∨ a = 1 ∨ a = 2 ∨ a = 3 ∨ a = 4 := by
  have h0 := i32_0 h.1
  have h1 := i32_nlt h.2
  have e4 : (4 : Int32).toInt = 4 := rfl
  rcases (by omega : a.toInt = 0 ∨ a.toInt = 1 ∨ a.toInt = 2 ∨ a.toInt = 3 ∨ a.toInt = 4) with e | e | e | e | e
  · exact Or.inl (i32_eq e)
  · exact Or.inr (Or.inl (i32_eq e))
  · exact Or.inr (Or.inr (Or.inl (i32_eq e)))
  · exact Or.inr (Or.inr (Or.inr (Or.inl (i32_eq e))))
  · exact Or.inr (Or.inr (Or.inr (Or.inr (i32_eq e))))
end
end
/-! 72.fq1.lean.txt -/
section
section
variable {g : RO} {Q : Ot → Hw → Prop} {w0 w : Hw} {x nA cA lA : Nat} {kn : Int32}
/-- is one of the first j places alike? -/
def ahB (f : Nat → R4) (r : R4) : Nat → Bool
  | 0 => false
  | j + 1 => ahB f r j || decide (mP r (f j))
theorem ahN {f : Nat → R4} {r : R4} : ∀ j : Nat, (∀ k, k < j → ¬ mP r (f k)) → ahB f r j = false
  | 0, _ => rfl
  | j + 1, h => by
    show (ahB f r j || decide (mP r (f j))) = false
    rw [ahN j (fun k hk => h k (by omega)), decide_eq_false (h j (by omega))]
    rfl
theorem ahT {f : Nat → R4} {r : R4} : ∀ j i : Nat, i < j → mP r (f i) → ahB f r j = true
  | 0, _, h, _ => absurd h (Nat.not_lt_zero _)
  | j + 1, i, h, m => by
    show (ahB f r j || decide (mP r (f j))) = true
    rcases Nat.lt_or_ge i j with q | q
    · rw [ahT j i q m]
      rfl
    · obtain rfl : i = j := by omega
      rw [decide_eq_true m, Bool.or_true]
def pcP (f : Nat → R4) (v : Int64) (a : Int32) (j : Nat) : Bool := if a = 1 then decide (hP (f j) v) else if a = 2 then decide (sP (f j) ∧ hP (f j) v) else if a = 3 then decide (fP (f j)) else if a = 4 then decide (sP (f j)) else if a = 5 then ahB f (f j) j else true
theorem pc1 {f : Nat → R4} {v : Int64} {j : Nat} : pcP f v 1 j = decide (hP (f j) v) := by
  unfold pcP
  rw [if_pos rfl]
theorem pc2 {f : Nat → R4} {v : Int64} {j : Nat} : pcP f v 2 j = decide (sP (f j) ∧ hP (f j) v) := by
  unfold pcP
  rw [if_neg (by decide), if_pos rfl]
theorem pc3 {f : Nat → R4} {v : Int64} {j : Nat} : pcP f v 3 j = decide (fP (f j)) := by
  unfold pcP
  rw [if_neg (by decide), if_neg (by decide), if_pos rfl]
theorem pc4 {f : Nat → R4} {v : Int64} {j : Nat} : pcP f v 4 j = decide (sP (f j)) := by
  unfold pcP
  rw [if_neg (by decide), if_neg (by decide), if_neg (by decide), if_pos rfl]
theorem pc5 {f : Nat → R4} {v : Int64} {j : Nat} : pcP f v 5 j = ahB f (f j) j := by
  unfold pcP
  rw [if_neg (by decide), if_neg (by decide), if_neg (by decide), if_neg (by decide), if_pos rfl]
theorem pc0 {f : Nat → R4} {v : Int64} {a : Int32} {j : Nat} (h : a.toInt < 1 ∨ 5 < a.toInt) : pcP f v a j = true := by
  unfold pcP
  rw [if_neg, if_neg, if_neg, if_neg, if_neg]
  all_goals
    rintro rfl
    revert h
    decide
theorem hbT {b : Bool} (hQ : Q (.inl (some (.int (bI b)))) w) (h : b = true) : Q (.inl (some (.int 1))) w := by
  rw [h] at hQ
  exact hQ
theorem hbF {b : Bool} (hQ : Q (.inl (some (.int (bI b)))) w) (h : b = false) : Q (.inl (some (.int 0))) w := by
  rw [h] at hQ
  exact hQ
theorem ijT {i j : Nat} (h : Int32.ofNat i < Int32.ofNat j) (hi : i < 1000) (hj : j < 1000) : i < j := by
  have k := i32_lt h
  rw [oNt hi, oNt hj] at k
  omega
theorem ijF {i j : Nat} (h : ¬ Int32.ofNat i < Int32.ofNat j) (hi : i < 1000) (hj : j < 1000) : j ≤ i := by
  have k := i32_nlt h
  rw [oNt hi, oNt hj] at k
  omega
set_option maxHeartbeats 4000000 in
theorem fX1_isCounted {s : AS} {p j : Nat} {v : Int64} {a : Int32} (hC : CS g w0 x nA cA lA kn s w) (hp : rAt w p (s.2.2.2.1 j)) (hj : j < s.2.2.1.toInt.toNat) (hn9 : s.2.2.1.toInt.toNat ≤ 12) (hQ : Q (.inl (some (.int (bI (pcP s.2.2.2.1 v a j))))) w) : WP (MX1_isCounted g) Q (0, [some (.ref x), some (.ref p), some (.int (Int32.ofNat j)), some (.long v), none, some (.int a)], [], w, 0, 0) := by
  rcases sw15 a with rfl | rfl | rfl | rfl | rfl | hsw
  · rw [pc1] at hQ
    repeat' first
      | with_reducible assumption
      | with_reducible refine And.intro ?_ ?_
      | with_reducible exact vpi6 (by assumption) (by assumption)
      | with_reducible exact vpi8 (by assumption) (by assumption)
      | with_reducible refine vX0_holds hp ?_
      | with_reducible exact go_F hp trivial
      | ((with_reducible refine isQ (Q := Q) ?_); exact hQ)
      | simp only [eX1_isCounted_0, eX1_isCounted_2_0, eX1_isCounted_2_1, eX1_isCounted_2_2, eX1_isCounted_2_3, eX1_isCounted_2_4, eX1_isCounted_2_d6, eX1_isCounted_2_d7, eX1_isCounted_36, eX1_isCounted_36N, eX1_isCounted_37, eX1_isCounted_41, eX1_isCounted_42, eX1_isCounted_42N, eX1_isCounted_43, eX1_isCounted_47, eX1_isCounted_48, eX1_isCounted_48N, eX1_isCounted_49, eX1_isCounted_52, eX1_isCounted_53, eX1_isCounted_53N, eX1_isCounted_54, eX1_isCounted_57, eX1_isCounted_58, eX1_isCounted_58N, eX1_isCounted_59, eX1_isCounted_59N, eX1_isCounted_60R, eX1_isCounted_60N, eX1_isCounted_63, eX1_isCounted_64, eX1_isCounted_67, eX1_isCounted_71, eX1_isCounted_72, eX1_isCounted_73, lgp, lgn, lgz, i10, i00, if_true, if_false, eq_self, not_true, not_false_eq_true, ite_le, n45, n54, true_or, or_true, false_or, or_false, false_and, and_false, kx_l, kx_r, go_s, gl_s, gi_s, gb_s2, gb_s3, gq_s, wt_nil, wt_int, wt_long, wt_ref, wt_null, nl_int, nl_long, nl_ref, nl_null, nl_none, rf_n, rf_s, rf_st, tl_s, tl_n, g0, gS, ex1, nb_b, nb_0, nb_1, nf_i, nf_l, nf_ra, nf_ro, nf_na, nf_no, nf_b0, nf_z0, t45_4, t45_5, true_and, and_true, List.set_cons_zero, List.set_cons_succ, List.length_cons, List.length_nil, rd_s, upw_s, ne_eq, not_false_eq_true, Nat.zero_add, Nat.add_zero]
      | split
      | with_reducible intro _
      | omega
  · rw [pc2] at hQ
    repeat' first
      | with_reducible assumption
      | with_reducible refine And.intro ?_ ?_
      | with_reducible exact vpi6 (by assumption) (by assumption)
      | with_reducible exact vpi8 (by assumption) (by assumption)
      | with_reducible refine vX0_holdsAsSmall hp ?_
      | with_reducible exact go_F hp trivial
      | ((with_reducible refine isQ (Q := Q) ?_); exact hQ)
      | simp only [eX1_isCounted_0, eX1_isCounted_2_0, eX1_isCounted_2_1, eX1_isCounted_2_2, eX1_isCounted_2_3, eX1_isCounted_2_4, eX1_isCounted_2_d6, eX1_isCounted_2_d7, eX1_isCounted_36, eX1_isCounted_36N, eX1_isCounted_37, eX1_isCounted_41, eX1_isCounted_42, eX1_isCounted_42N, eX1_isCounted_43, eX1_isCounted_47, eX1_isCounted_48, eX1_isCounted_48N, eX1_isCounted_49, eX1_isCounted_52, eX1_isCounted_53, eX1_isCounted_53N, eX1_isCounted_54, eX1_isCounted_57, eX1_isCounted_58, eX1_isCounted_58N, eX1_isCounted_59, eX1_isCounted_59N, eX1_isCounted_60R, eX1_isCounted_60N, eX1_isCounted_63, eX1_isCounted_64, eX1_isCounted_67, eX1_isCounted_71, eX1_isCounted_72, eX1_isCounted_73, lgp, lgn, lgz, i10, i00, if_true, if_false, eq_self, not_true, not_false_eq_true, ite_le, n45, n54, true_or, or_true, false_or, or_false, false_and, and_false, kx_l, kx_r, go_s, gl_s, gi_s, gb_s2, gb_s3, gq_s, wt_nil, wt_int, wt_long, wt_ref, wt_null, nl_int, nl_long, nl_ref, nl_null, nl_none, rf_n, rf_s, rf_st, tl_s, tl_n, g0, gS, ex1, nb_b, nb_0, nb_1, nf_i, nf_l, nf_ra, nf_ro, nf_na, nf_no, nf_b0, nf_z0, t45_4, t45_5, true_and, and_true, List.set_cons_zero, List.set_cons_succ, List.length_cons, List.length_nil, rd_s, upw_s, ne_eq, not_false_eq_true, Nat.zero_add, Nat.add_zero]
      | split
      | with_reducible intro _
      | omega
  · rw [pc3] at hQ
    repeat' first
      | with_reducible assumption
      | with_reducible refine And.intro ?_ ?_
      | with_reducible exact vpi6 (by assumption) (by assumption)
      | with_reducible exact vpi8 (by assumption) (by assumption)
      | with_reducible refine fX0_isSettled hp (fun hm => ?_) (fun hm => ?_)
      | ((with_reducible refine isQ (Q := Q) ?_); exact hbT hQ (decide_eq_true hm))
      | ((with_reducible refine isQ (Q := Q) ?_); exact hbF hQ (decide_eq_false hm))
      | with_reducible exact go_F hp trivial
      | ((with_reducible refine isQ (Q := Q) ?_); exact hQ)
      | simp only [eX1_isCounted_0, eX1_isCounted_2_0, eX1_isCounted_2_1, eX1_isCounted_2_2, eX1_isCounted_2_3, eX1_isCounted_2_4, eX1_isCounted_2_d6, eX1_isCounted_2_d7, eX1_isCounted_36, eX1_isCounted_36N, eX1_isCounted_37, eX1_isCounted_41, eX1_isCounted_42, eX1_isCounted_42N, eX1_isCounted_43, eX1_isCounted_47, eX1_isCounted_48, eX1_isCounted_48N, eX1_isCounted_49, eX1_isCounted_52, eX1_isCounted_53, eX1_isCounted_53N, eX1_isCounted_54, eX1_isCounted_57, eX1_isCounted_58, eX1_isCounted_58N, eX1_isCounted_59, eX1_isCounted_59N, eX1_isCounted_60R, eX1_isCounted_60N, eX1_isCounted_63, eX1_isCounted_64, eX1_isCounted_67, eX1_isCounted_71, eX1_isCounted_72, eX1_isCounted_73, lgp, lgn, lgz, i10, i00, if_true, if_false, eq_self, not_true, not_false_eq_true, ite_le, n45, n54, true_or, or_true, false_or, or_false, false_and, and_false, kx_l, kx_r, go_s, gl_s, gi_s, gb_s2, gb_s3, gq_s, wt_nil, wt_int, wt_long, wt_ref, wt_null, nl_int, nl_long, nl_ref, nl_null, nl_none, rf_n, rf_s, rf_st, tl_s, tl_n, g0, gS, ex1, nb_b, nb_0, nb_1, nf_i, nf_l, nf_ra, nf_ro, nf_na, nf_no, nf_b0, nf_z0, t45_4, t45_5, true_and, and_true, List.set_cons_zero, List.set_cons_succ, List.length_cons, List.length_nil, rd_s, upw_s, ne_eq, not_false_eq_true, Nat.zero_add, Nat.add_zero]
      | split
      | with_reducible intro _
      | omega
  · rw [pc4] at hQ
    repeat' first
      | with_reducible assumption
      | with_reducible refine And.intro ?_ ?_
      | with_reducible exact vpi6 (by assumption) (by assumption)
      | with_reducible exact vpi8 (by assumption) (by assumption)
      | with_reducible refine fX0_fitsSmall hp (fun hm => ?_) (fun hm => ?_)
      | ((with_reducible refine isQ (Q := Q) ?_); exact hbT hQ (decide_eq_true hm))
      | ((with_reducible refine isQ (Q := Q) ?_); exact hbF hQ (decide_eq_false hm))
      | with_reducible exact go_F hp trivial
      | ((with_reducible refine isQ (Q := Q) ?_); exact hQ)
      | simp only [eX1_isCounted_0, eX1_isCounted_2_0, eX1_isCounted_2_1, eX1_isCounted_2_2, eX1_isCounted_2_3, eX1_isCounted_2_4, eX1_isCounted_2_d6, eX1_isCounted_2_d7, eX1_isCounted_36, eX1_isCounted_36N, eX1_isCounted_37, eX1_isCounted_41, eX1_isCounted_42, eX1_isCounted_42N, eX1_isCounted_43, eX1_isCounted_47, eX1_isCounted_48, eX1_isCounted_48N, eX1_isCounted_49, eX1_isCounted_52, eX1_isCounted_53, eX1_isCounted_53N, eX1_isCounted_54, eX1_isCounted_57, eX1_isCounted_58, eX1_isCounted_58N, eX1_isCounted_59, eX1_isCounted_59N, eX1_isCounted_60R, eX1_isCounted_60N, eX1_isCounted_63, eX1_isCounted_64, eX1_isCounted_67, eX1_isCounted_71, eX1_isCounted_72, eX1_isCounted_73, lgp, lgn, lgz, i10, i00, if_true, if_false, eq_self, not_true, not_false_eq_true, ite_le, n45, n54, true_or, or_true, false_or, or_false, false_and, and_false, kx_l, kx_r, go_s, gl_s, gi_s, gb_s2, gb_s3, gq_s, wt_nil, wt_int, wt_long, wt_ref, wt_null, nl_int, nl_long, nl_ref, nl_null, nl_none, rf_n, rf_s, rf_st, tl_s, tl_n, g0, gS, ex1, nb_b, nb_0, nb_1, nf_i, nf_l, nf_ra, nf_ro, nf_na, nf_no, nf_b0, nf_z0, t45_4, t45_5, true_and, and_true, List.set_cons_zero, List.set_cons_succ, List.length_cons, List.length_nil, rd_s, upw_s, ne_eq, not_false_eq_true, Nat.zero_add, Nat.add_zero]
      | split
      | with_reducible intro _
      | omega
  · rw [pc5] at hQ
    repeat' first
      | with_reducible assumption
      | with_reducible refine And.intro ?_ ?_
      | with_reducible exact vpi6 (by assumption) (by assumption)
      | with_reducible exact vpi8 (by assumption) (by assumption)
      | with_reducible refine fX1_firstPlaceOf hC hp (fun z1 => ?_) (fun i z1 z2 z3 => ?_)
      | with_reducible exact absurd mP_rf (z1 j hj)
      | ((with_reducible refine isQ (Q := Q) ?_); exact hbT hQ (ahT j i (ijT (by assumption) (by omega) (by omega)) z2))
      | ((with_reducible refine isQ (Q := Q) ?_); exact hbF hQ (ahN j (fun k hk => z3 k (Nat.lt_of_lt_of_le hk (ijF (by assumption) (by omega) (by omega))))))
      | with_reducible exact go_5 hC
      | with_reducible exact go_F hp trivial
      | ((with_reducible refine isQ (Q := Q) ?_); exact hQ)
      | simp only [eX1_isCounted_0, eX1_isCounted_2_0, eX1_isCounted_2_1, eX1_isCounted_2_2, eX1_isCounted_2_3, eX1_isCounted_2_4, eX1_isCounted_2_d6, eX1_isCounted_2_d7, eX1_isCounted_36, eX1_isCounted_36N, eX1_isCounted_37, eX1_isCounted_41, eX1_isCounted_42, eX1_isCounted_42N, eX1_isCounted_43, eX1_isCounted_47, eX1_isCounted_48, eX1_isCounted_48N, eX1_isCounted_49, eX1_isCounted_52, eX1_isCounted_53, eX1_isCounted_53N, eX1_isCounted_54, eX1_isCounted_57, eX1_isCounted_58, eX1_isCounted_58N, eX1_isCounted_59, eX1_isCounted_59N, eX1_isCounted_60R, eX1_isCounted_60N, eX1_isCounted_63, eX1_isCounted_64, eX1_isCounted_67, eX1_isCounted_71, eX1_isCounted_72, eX1_isCounted_73, lgp, lgn, lgz, i10, i00, if_true, if_false, eq_self, not_true, not_false_eq_true, ite_le, n45, n54, true_or, or_true, false_or, or_false, false_and, and_false, kx_l, kx_r, go_s, gl_s, gi_s, gb_s2, gb_s3, gq_s, wt_nil, wt_int, wt_long, wt_ref, wt_null, nl_int, nl_long, nl_ref, nl_null, nl_none, rf_n, rf_s, rf_st, tl_s, tl_n, g0, gS, ex1, nb_b, nb_0, nb_1, nf_i, nf_l, nf_ra, nf_ro, nf_na, nf_no, nf_b0, nf_z0, t45_4, t45_5, true_and, and_true, List.set_cons_zero, List.set_cons_succ, List.length_cons, List.length_nil, rd_s, upw_s, ne_eq, not_false_eq_true, Nat.zero_add, Nat.add_zero]
      | split
      | with_reducible intro _
      | omega
  · rw [pc0 hsw] at hQ
    repeat' first
      | with_reducible assumption
      | with_reducible refine And.intro ?_ ?_
      | with_reducible exact vpi6 (by assumption) (by assumption)
      | with_reducible exact vpi8 (by assumption) (by assumption)
      | ((with_reducible refine isQ (Q := Q) ?_); exact hbT hQ rfl)
      | with_reducible exact go_F hp trivial
      | ((with_reducible refine isQ (Q := Q) ?_); exact hQ)
      | simp only [eX1_isCounted_0, eX1_isCounted_2_0, eX1_isCounted_2_1, eX1_isCounted_2_2, eX1_isCounted_2_3, eX1_isCounted_2_4, eX1_isCounted_2_d6, eX1_isCounted_2_d7, eX1_isCounted_36, eX1_isCounted_36N, eX1_isCounted_37, eX1_isCounted_41, eX1_isCounted_42, eX1_isCounted_42N, eX1_isCounted_43, eX1_isCounted_47, eX1_isCounted_48, eX1_isCounted_48N, eX1_isCounted_49, eX1_isCounted_52, eX1_isCounted_53, eX1_isCounted_53N, eX1_isCounted_54, eX1_isCounted_57, eX1_isCounted_58, eX1_isCounted_58N, eX1_isCounted_59, eX1_isCounted_59N, eX1_isCounted_60R, eX1_isCounted_60N, eX1_isCounted_63, eX1_isCounted_64, eX1_isCounted_67, eX1_isCounted_71, eX1_isCounted_72, eX1_isCounted_73, lgp, lgn, lgz, i10, i00, if_true, if_false, eq_self, not_true, not_false_eq_true, eX1_isCounted_2_d hsw, ite_le, n45, n54, true_or, or_true, false_or, or_false, false_and, and_false, kx_l, kx_r, go_s, gl_s, gi_s, gb_s2, gb_s3, gq_s, wt_nil, wt_int, wt_long, wt_ref, wt_null, nl_int, nl_long, nl_ref, nl_null, nl_none, rf_n, rf_s, rf_st, tl_s, tl_n, g0, gS, ex1, nb_b, nb_0, nb_1, nf_i, nf_l, nf_ra, nf_ro, nf_na, nf_no, nf_b0, nf_z0, t45_4, t45_5, true_and, and_true, List.set_cons_zero, List.set_cons_succ, List.length_cons, List.length_nil, rd_s, upw_s, ne_eq, not_false_eq_true, Nat.zero_add, Nat.add_zero]
      | split
      | with_reducible intro _
      | omega
set_option maxHeartbeats 4000000 in
theorem flX1_pileCount_6 {s : AS} {v : Int64} {a : Int32} (hC : CS g w0 x nA cA lA kn s w) (hQ : Q (.inl (some (.int (fsum (fun j => bI (pcP s.2.2.2.1 v a j)) s.2.2.1.toInt.toNat)))) w) : ∀ (d j : Nat) (i6 : Option Value) (k m : Nat), j + d = s.2.2.1.toInt.toNat → k ≤ 0 → m ≤ 0 → WP (MX1_pileCount g) Q (6, [some (.ref x), some (.long v), none, some (.int a), some (.int (fsum (fun j => bI (pcP s.2.2.2.1 v a j)) j)), some (.int (Int32.ofNat j)), i6], [], w, k, m) := by
  obtain ⟨gc, gl, ⟨hx, hn, hc, hl, hgc, hgl, hn0, hn1, rx, rn, rc, rl, ⟨d1, d2, d3, d4, d5, d6⟩, ⟨d7, d8, d9, d10, d11, d12⟩⟩, hcd, hpl⟩ := hC.1.opn g
  intro d
  induction d with
  | zero =>
    intro j i6 k m hjd hk hm
    have h9 : j < 1000 := (by have := (cnt12 hn0 hn1).2; omega)
    have hlt : ¬ Int32.ofNat j < s.2.2.1 := oNg (B := s.2.2.1.toInt.toNat) h9 (cnt12 hn0 hn1).1 (by omega)
    have hnn := oN0 h9
    have hcl := oNc h9
    obtain rfl : j = s.2.2.1.toInt.toNat := by omega
    rw [eX1_pileCount_6]
    repeat' first
      | with_reducible assumption
      | with_reducible refine And.intro ?_ ?_
      | with_reducible exact vpi6 (by assumption) (by assumption)
      | with_reducible exact vpi8 (by assumption) (by assumption)
      | with_reducible exact trivial
      | with_reducible exact vpj (j := j) (by have := (cnt12 hn0 hn1).2; omega)
      | with_reducible exact go_5 hC
      | with_reducible exact absurd (by assumption) (pln (j := j) hpl (by omega))
      | with_reducible refine fX1_isCounted hC (plj (j := j) hpl (by omega) (by assumption)) (by omega) (cnt12 hn0 hn1).2 ?_
      | with_reducible refine fX1_asNumber (bI01 _) ?_
      | ((with_reducible refine isQ (Q := Q) ?_); exact hQ)
      | simp only [eX1_pileCount_0, eX1_pileCount_8, eX1_pileCount_8N, eX1_pileCount_9, eX1_pileCount_12, eX1_pileCount_15, eX1_pileCount_15N, eX1_pileCount_16, eX1_pileCount_19, eX1_pileCount_22, eX1_pileCount_22N, eX1_pileCount_24, eX1_pileCount_24N, eX1_pileCount_26R, eX1_pileCount_26N, eX1_pileCount_29, eX1_pileCount_31, eX1_pileCount_31N, eX1_pileCount_32, eX1_pileCount_32N, eX1_pileCount_34, eX1_pileCount_38R, eX1_pileCount_38N, eX1_pileCount_41, eX1_pileCount_44, eX1_pileCount_47, eX1_pileCount_53, lgp, lgn, lgz, i10, i00, if_true, if_false, eq_self, not_true, not_false_eq_true, hlt, hcl, rx, rn, rc, rl, hx, hn, hc, hl, d1, d2, d3, d4, d5, d6, d7, d8, d9, d10, d11, d12, rd_n, upw_n, ite_le, n45, n54, true_or, or_true, false_or, or_false, false_and, and_false, kx_l, kx_r, go_s, gl_s, gi_s, gb_s2, gb_s3, gq_s, wt_nil, wt_int, wt_long, wt_ref, wt_null, nl_int, nl_long, nl_ref, nl_null, nl_none, rf_n, rf_s, rf_st, tl_s, tl_n, g0, gS, ex1, nb_b, nb_0, nb_1, nf_i, nf_l, nf_ra, nf_ro, nf_na, nf_no, nf_b0, nf_z0, t45_4, t45_5, true_and, and_true, List.set_cons_zero, List.set_cons_succ, List.length_cons, List.length_nil, rd_s, upw_s, ne_eq, not_false_eq_true, Nat.zero_add, Nat.add_zero]
      | split
      | with_reducible intro _
      | omega
  | succ d ih =>
    intro j i6 k m hjd hk hm
    have h9 : j < 1000 := (by have := (cnt12 hn0 hn1).2; omega)
    have hlt : Int32.ofNat j < s.2.2.1 := oNl (B := s.2.2.1.toInt.toNat) h9 (cnt12 hn0 hn1).1 (by omega)
    have hnn := oN0 h9
    have hcl := oNc h9
    rw [eX1_pileCount_6]
    repeat' first
      | with_reducible assumption
      | with_reducible refine And.intro ?_ ?_
      | with_reducible exact vpi6 (by assumption) (by assumption)
      | with_reducible exact vpi8 (by assumption) (by assumption)
      | with_reducible exact trivial
      | (rw [oN1]; exact ih (j + 1) _ _ _ (by omega) (by first | assumption | omega) (by first | assumption | omega))
      | with_reducible exact vpj (j := j) (by have := (cnt12 hn0 hn1).2; omega)
      | with_reducible exact go_5 hC
      | with_reducible exact absurd (by assumption) (pln (j := j) hpl (by omega))
      | with_reducible refine fX1_isCounted hC (plj (j := j) hpl (by omega) (by assumption)) (by omega) (cnt12 hn0 hn1).2 ?_
      | with_reducible refine fX1_asNumber (bI01 _) ?_
      | ((with_reducible refine isQ (Q := Q) ?_); exact hQ)
      | simp only [eX1_pileCount_0, eX1_pileCount_8, eX1_pileCount_8N, eX1_pileCount_9, eX1_pileCount_12, eX1_pileCount_15, eX1_pileCount_15N, eX1_pileCount_16, eX1_pileCount_19, eX1_pileCount_22, eX1_pileCount_22N, eX1_pileCount_24, eX1_pileCount_24N, eX1_pileCount_26R, eX1_pileCount_26N, eX1_pileCount_29, eX1_pileCount_31, eX1_pileCount_31N, eX1_pileCount_32, eX1_pileCount_32N, eX1_pileCount_34, eX1_pileCount_38R, eX1_pileCount_38N, eX1_pileCount_41, eX1_pileCount_44, eX1_pileCount_47, eX1_pileCount_53, lgp, lgn, lgz, i10, i00, if_true, if_false, eq_self, not_true, not_false_eq_true, hlt, hcl, rx, rn, rc, rl, hx, hn, hc, hl, d1, d2, d3, d4, d5, d6, d7, d8, d9, d10, d11, d12, rd_n, upw_n, ite_le, n45, n54, true_or, or_true, false_or, or_false, false_and, and_false, kx_l, kx_r, go_s, gl_s, gi_s, gb_s2, gb_s3, gq_s, wt_nil, wt_int, wt_long, wt_ref, wt_null, nl_int, nl_long, nl_ref, nl_null, nl_none, rf_n, rf_s, rf_st, tl_s, tl_n, g0, gS, ex1, nb_b, nb_0, nb_1, nf_i, nf_l, nf_ra, nf_ro, nf_na, nf_no, nf_b0, nf_z0, t45_4, t45_5, true_and, and_true, List.set_cons_zero, List.set_cons_succ, List.length_cons, List.length_nil, rd_s, upw_s, ne_eq, not_false_eq_true, Nat.zero_add, Nat.add_zero]
      | split
      | with_reducible intro _
      | omega
set_option maxHeartbeats 4000000 in
theorem fX1_pileCount {s : AS} {v : Int64} {a : Int32} (hC : CS g w0 x nA cA lA kn s w) (hQ : Q (.inl (some (.int (fsum (fun j => bI (pcP s.2.2.2.1 v a j)) s.2.2.1.toInt.toNat)))) w) : WP (MX1_pileCount g) Q (0, [some (.ref x), some (.long v), none, some (.int a), none, none, none], [], w, 0, 0) := by
  repeat' first
    | with_reducible assumption
    | with_reducible refine And.intro ?_ ?_
    | with_reducible exact vpi6 (by assumption) (by assumption)
    | with_reducible exact vpi8 (by assumption) (by assumption)
    | with_reducible exact trivial
    | ((with_reducible refine isWP (pc := 6) ?_); exact flX1_pileCount_6 hC hQ _ 0 _ _ _ (Nat.zero_add _) (by decide) (by decide))
    | simp only [eX1_pileCount_0, eX1_pileCount_8, eX1_pileCount_8N, eX1_pileCount_9, eX1_pileCount_12, eX1_pileCount_15, eX1_pileCount_15N, eX1_pileCount_16, eX1_pileCount_19, eX1_pileCount_22, eX1_pileCount_22N, eX1_pileCount_24, eX1_pileCount_24N, eX1_pileCount_26R, eX1_pileCount_26N, eX1_pileCount_29, eX1_pileCount_31, eX1_pileCount_31N, eX1_pileCount_32, eX1_pileCount_32N, eX1_pileCount_34, eX1_pileCount_38R, eX1_pileCount_38N, eX1_pileCount_41, eX1_pileCount_44, eX1_pileCount_47, eX1_pileCount_53, lgp, lgn, lgz, i10, i00, if_true, if_false, eq_self, not_true, not_false_eq_true, ite_le, n45, n54, true_or, or_true, false_or, or_false, false_and, and_false, kx_l, kx_r, go_s, gl_s, gi_s, gb_s2, gb_s3, gq_s, wt_nil, wt_int, wt_long, wt_ref, wt_null, nl_int, nl_long, nl_ref, nl_null, nl_none, rf_n, rf_s, rf_st, tl_s, tl_n, g0, gS, ex1, nb_b, nb_0, nb_1, nf_i, nf_l, nf_ra, nf_ro, nf_na, nf_no, nf_b0, nf_z0, t45_4, t45_5, true_and, and_true, List.set_cons_zero, List.set_cons_succ, List.length_cons, List.length_nil, rd_s, upw_s, ne_eq, not_false_eq_true, Nat.zero_add, Nat.add_zero]
    | split
    | with_reducible intro _
    | omega
theorem thN {o : Nat → Option R4} {j : Nat} (e : o j = none) : fsum (fun j => bI (o j).isSome) j + 0 = fsum (fun j => bI (o j).isSome) (j + 1) := by
  show _ = fsum (fun j => bI (o j).isSome) j + bI (o j).isSome
  rw [e]
  rfl
theorem thT {o : Nat → Option R4} {j : Nat} {r : R4} (e : o j = some r) : fsum (fun j => bI (o j).isSome) j + 1 = fsum (fun j => bI (o j).isSome) (j + 1) := by
  show _ = fsum (fun j => bI (o j).isSome) j + bI (o j).isSome
  rw [e]
  rfl
def houV (s : AS) (kn a : Int32) : Int32 := if a = 0 then fsum (fun j => bI (s.2.1 j).isSome) 6 else if a = 1 then s.2.2.1 else if a = 2 then s.2.2.2.2.1 else if a = 3 then kn else s.2.2.2.2.2
theorem houD {s : AS} {kn a : Int32} (h : a.toInt < 0 ∨ 3 < a.toInt) : houV s kn a = s.2.2.2.2.2 := by
  unfold houV
  rw [if_neg, if_neg, if_neg, if_neg]
  all_goals
    rintro rfl
    revert h
    decide
set_option maxHeartbeats 4000000 in
theorem flX1_cardsWithRange_4 {s : AS} (hC : CS g w0 x nA cA lA kn s w) (hQ : Q (.inl (some (.int (fsum (fun j => bI (s.2.1 j).isSome) 6)))) w) : ∀ (d j : Nat)  (k m : Nat), j + d = 6 → k ≤ 0 → m ≤ 0 → WP (MX1_cardsWithRange g) Q (4, [some (.ref x), some (.int (fsum (fun j => bI (s.2.1 j).isSome) j)), some (.int (Int32.ofNat j))], [], w, k, m) := by
  obtain ⟨gc, gl, ⟨hx, hn, hc, hl, hgc, hgl, hn0, hn1, rx, rn, rc, rl, ⟨d1, d2, d3, d4, d5, d6⟩, ⟨d7, d8, d9, d10, d11, d12⟩⟩, hcd, hpl⟩ := hC.1.opn g
  intro d
  induction d with
  | zero =>
    intro j  k m hjd hk hm
    have h9 : j < 1000 := (by omega)
    have hlt : ¬ Int32.ofNat j < 6 := oNg (B := 6) h9 rfl (by omega)
    have hnn := oN0 h9
    have hcl := oNc h9
    obtain rfl : j = 6 := by omega
    rw [eX1_cardsWithRange_4]
    simp only [eX1_cardsWithRange_5, eX1_cardsWithRange_10, eX1_cardsWithRange_15, eX1_cardsWithRange_17R, eX1_cardsWithRange_17N, eX1_cardsWithRange_20, eX1_cardsWithRange_24, eX1_cardsWithRange_25, eX1_cardsWithRange_36, if_false, hlt, hcl, rx, rc, ite_le, n45, or_false, go_s, gq_s, wt_nil, wt_int, rf_st, g0, gS, ex1, true_and, Nat.add_zero]
    with_reducible refine And.intro ?_ ?_
    with_reducible assumption
    with_reducible refine And.intro ?_ ?_
    with_reducible assumption
    with_reducible assumption
  | succ d ih =>
    intro j  k m hjd hk hm
    have h9 : j < 1000 := (by omega)
    have hlt : Int32.ofNat j < 6 := oNl (B := 6) h9 rfl (by omega)
    have hnn := oN0 h9
    have hcl := oNc h9
    rw [eX1_cardsWithRange_4]
    simp only [eX1_cardsWithRange_5, eX1_cardsWithRange_10, eX1_cardsWithRange_15, eX1_cardsWithRange_17R, eX1_cardsWithRange_17N, eX1_cardsWithRange_20, eX1_cardsWithRange_24, eX1_cardsWithRange_25, eX1_cardsWithRange_36, if_true, hlt, hcl, rx, rc, ite_le, n45, or_false, go_s, gq_s, wt_nil, wt_int, rf_st, g0, gS, ex1, true_and, Nat.add_zero]
    with_reducible refine And.intro ?_ ?_
    with_reducible exact vpi6 (by assumption) (by assumption)
    with_reducible refine And.intro ?_ ?_
    with_reducible intro _
    with_reducible refine And.intro ?_ ?_
    omega
    with_reducible refine And.intro ?_ ?_
    with_reducible assumption
    with_reducible refine And.intro ?_ ?_
    with_reducible assumption
    with_reducible refine fX1_asNumber (Or.inl rfl) ?_
    simp only [eX1_cardsWithRange_28, kx_l, nl_int, nl_ref, tl_s]
    (rw [oN1, thN (cjN hcd (j := j) (by omega) (by assumption))]; exact ih (j + 1) _ _ (by omega) (by first | assumption | omega) (by first | assumption | omega))
    with_reducible intro _
    with_reducible intro _
    with_reducible refine And.intro ?_ ?_
    omega
    with_reducible refine And.intro ?_ ?_
    with_reducible assumption
    with_reducible refine And.intro ?_ ?_
    with_reducible assumption
    with_reducible refine fX1_asNumber (Or.inr rfl) ?_
    simp only [eX1_cardsWithRange_28, kx_l, nl_int, nl_ref, tl_s]
    (obtain ⟨r0, e0, hp0⟩ := cjS hcd (j := j) (by omega) (by assumption); rw [oN1, thT e0]; exact ih (j + 1) _ _ (by omega) (by first | assumption | omega) (by first | assumption | omega))
set_option maxHeartbeats 4000000 in
theorem fX1_cardsWithRange {s : AS} (hC : CS g w0 x nA cA lA kn s w) (hQ : Q (.inl (some (.int (fsum (fun j => bI (s.2.1 j).isSome) 6)))) w) : WP (MX1_cardsWithRange g) Q (0, [some (.ref x), none, none], [], w, 0, 0) := by
  simp only [eX1_cardsWithRange_0, nl_int, nl_ref]
  ((with_reducible refine isWP (pc := 4) ?_); exact flX1_cardsWithRange_4 hC hQ 6 0 _ _ rfl (by decide) (by decide))
theorem sw03f (a : Int32) : a = 0 ∨ a = 1 ∨ a = 2 ∨ a = 3 ∨ (a.toInt < 0 ∨ 3 < a.toInt) := by
  rcases sw_0 a 3 (by decide) with ⟨k, h, rfl⟩ | h
  · match k, h with
    | 0, _ => exact Or.inl rfl
    | 1, _ => exact Or.inr (Or.inl rfl)
    | 2, _ => exact Or.inr (Or.inr (Or.inl rfl))
    | 3, _ => exact Or.inr (Or.inr (Or.inr (Or.inl rfl)))
  · exact Or.inr (Or.inr (Or.inr (Or.inr h)))
set_option maxHeartbeats 4000000 in
theorem fX1_houseCount {s : AS} {a : Int32} (hC : CS g w0 x nA cA lA kn s w) (hQ : Q (.inl (some (.int (houV s kn a)))) w) : WP (MX1_houseCount g) Q (0, [some (.ref x), some (.int a)], [], w, 0, 0) := by
  obtain ⟨gc, gl, ⟨hx, hn, hc, hl, hgc, hgl, hn0, hn1, rx, rn, rc, rl, ⟨d1, d2, d3, d4, d5, d6⟩, ⟨d7, d8, d9, d10, d11, d12⟩⟩, hcd, hpl⟩ := hC.1.opn g
  rcases sw03f a with rfl | rfl | rfl | rfl | hsw
  · skip
    simp only [eX1_houseCount_0, eX1_houseCount_1_0, eX1_houseCount_32, rx, go_s, wt_nil, true_and, Nat.add_zero]
    with_reducible refine And.intro ?_ ?_
    omega
    with_reducible refine And.intro ?_ ?_
    omega
    with_reducible refine And.intro ?_ ?_
    omega
    with_reducible refine fX1_cardsWithRange hC ?_
    simp only [eX1_houseCount_36, kx_l, tl_s]
    with_reducible refine And.intro ?_ ?_
    omega
    with_reducible refine And.intro ?_ ?_
    omega
    ((with_reducible refine isQ (Q := Q) ?_); exact hQ)
  · skip
    simp only [eX1_houseCount_0, eX1_houseCount_1_1, eX1_houseCount_37, eX1_houseCount_41, rx, go_s, g0, gS, ex1]
    with_reducible refine And.intro ?_ ?_
    omega
    with_reducible refine And.intro ?_ ?_
    omega
    ((with_reducible refine isQ (Q := Q) ?_); exact hQ)
  · skip
    simp only [eX1_houseCount_0, eX1_houseCount_1_2, eX1_houseCount_42, eX1_houseCount_46, rx, go_s, g0, gS, ex1]
    with_reducible refine And.intro ?_ ?_
    omega
    with_reducible refine And.intro ?_ ?_
    omega
    ((with_reducible refine isQ (Q := Q) ?_); exact hQ)
  · skip
    simp only [eX1_houseCount_0, eX1_houseCount_1_3, eX1_houseCount_47, eX1_houseCount_51, rx, go_s, g0, gS, ex1]
    with_reducible refine And.intro ?_ ?_
    omega
    with_reducible refine And.intro ?_ ?_
    omega
    ((with_reducible refine isQ (Q := Q) ?_); exact hQ)
  · rw [houD hsw] at hQ
    simp only [eX1_houseCount_0, eX1_houseCount_52, eX1_houseCount_56, rx, eX1_houseCount_1_d hsw, go_s, g0, gS, ex1]
    with_reducible refine And.intro ?_ ?_
    omega
    with_reducible refine And.intro ?_ ?_
    omega
    with_reducible assumption
end
end
/-! 75.mf0.lean.txt -/
section
section
variable {g : RO} {Q : Ot → Hw → Prop} {w0 w : Hw} {y nM : Nat} {kd th : Int32} {s : AS}
def rV (r : R4) : Nat → Int64 := vp_updL (vp_updL (vp_updL (vp_updL (fun _ => 0) 0 r.1) 1 r.2.1) 2 r.2.2.1) 3 r.2.2.2
/-- a row's cells: its four numbers -/
def rowA (w : Hw) (b : Nat) (r : R4) : Prop := w b = some (.inl (0, 4, .inr (.inl (rV r))))
theorem rowA.row {b : Nat} {r : R4} (h : rowA w b r) : isRow w b := ⟨_, h⟩
theorem rowA.ext {b : Nat} {r : R4} {w' : Hw} (h : rowA w b r) (k : ext g w w') : rowA w' b r := k.1 _ _ h
theorem rowA.ca {b : Nat} {r : R4} (h : rowA w b r) : ∃ x, w b = some (.inl (0, x)) := ⟨_, h⟩
theorem rowA_up {a b : Nat} {r : R4} {o1 o2 : Ob} (h : rowA w b r) (ha : w a = some o1) (ho : ∀ z, o1 ≠ .inl (0, 4, z)) : rowA (upw w a o2) b r := by
  unfold rowA
  rw [upw_n]
  · exact h
  · rintro rfl
    rw [h] at ha
    cases ha
    exact ho _ rfl
theorem gl_A {b : Nat} {r : R4} {K : Nat → (Nat → Int64) → Prop} (h : rowA w b r) (k : K 4 (rV r)) : gl (rd g w b) 0 K := by
  rw [rd_e h, gl_s]
  exact k
theorem rv0 {r : R4} : rV r (0 : Int32).toNatClampNeg = r.1 := Eq.trans rfl rfl
theorem rv1 {r : R4} : rV r (1 : Int32).toNatClampNeg = r.2.1 := Eq.trans rfl rfl
theorem rv2 {r : R4} : rV r (2 : Int32).toNatClampNeg = r.2.2.1 := Eq.trans rfl rfl
theorem rv3 {r : R4} : rV r (3 : Int32).toNatClampNeg = r.2.2.2 := Eq.trans rfl rfl
theorem rvE {r : R4} {a : Int32} (h0 : ¬ a < 0) (h1 : ¬ 3 < a) : rV r a.toNatClampNeg = eV r a := by
  rcases sw02 a with rfl | rfl | rfl | h
  · rfl
  · rfl
  · rfl
  · have e3 : (3 : Int32).toInt = 3 := rfl
    have e0 := i32_0 h0
    have e1 := i32_nlt h1
    obtain rfl : a = 3 := i32_eq (by omega)
    rfl
theorem rvj {r : R4} {j : Nat} (h : j < 4) : rV r j = eV r (Int32.ofNat j) := by
  match j, h with
  | 0, _ => rfl
  | 1, _ => rfl
  | 2, _ => rfl
  | 3, _ => rfl
  | j + 4, h => exact absurd h (by omega)
def cR (w : Hw) : Option Nat → Option R4 → Prop
  | none, none => True
  | some b, some r => rowA w b r
  | _, _ => False
theorem cR.sm {b : Nat} {o : Option R4} (h : cR w (some b) o) : ∃ r, o = some r ∧ rowA w b r := by
  cases o with
  | none => exact (h : False).elim
  | some r => exact ⟨r, rfl, h⟩
theorem cR.n {o : Option R4} (h : cR w none o) : o = none := by
  cases o with
  | none => rfl
  | some r => exact (h : False).elim
theorem cR.mp {w' : Hw} {q : Option Nat} {o : Option R4} (h : cR w q o) (k : ∀ b r, rowA w b r → rowA w' b r) : cR w' q o := by
  cases q <;> cases o <;> first | exact h | exact k _ _ h
/-- the model's cells hold the state s -/
def MF (g : RO) (w : Hw) (y nM : Nat) (kd th : Int32) (s : AS) : Prop := ∃ (cL pL D1 D2 c1 c2 : Nat) (h1 h2 : Nat → Option Nat),
  w y = some (.inr (7, [.int th, .ref nM, .ref cL, .ref pL, .int s.2.2.2.2.1, .int kd, .int s.2.2.2.2.2])) ∧ w nM = some (.inl (0, 8, .inr (.inl s.1))) ∧ LL g w cL D1 c1 6 h1 ∧ (∀ i b, h1 i = some b → isRow w b) ∧ LL g w pL D2 c2 s.2.2.1 h2 ∧ (∀ i b, h2 i = some b → isRow w b) ∧ s.2.2.1.toInt ≤ 12 ∧ cL ≠ pL ∧ D1 ≠ D2 ∧
  (∀ i, i < 6 → cR w (h1 i) (s.2.1 i)) ∧ ∀ i : Nat, (i : Int) < s.2.2.1.toInt → ∃ b, h2 i = some b ∧ rowA w b (s.2.2.2.1 i)
theorem MF.rmo (h : MF g w y nM kd th s) : RMo g w y nM kd := by
  obtain ⟨cL, pL, D1, D2, c1, c2, h1, h2, a1, a2, a3, a4, a5, a6, a7, a8, a9, b1, b2⟩ := h
  exact ⟨cL, pL, D1, D2, c1, c2, th, _, _, _, _, h1, h2, a1, a2, a3, a4, a5, a6, a7, a8, a9, fun i hi => (b2 i hi).imp fun _ z => z.1⟩
def MS (g : RO) (w0 : Hw) (y nM : Nat) (kd th : Int32) (s : AS) (w : Hw) : Prop := MF g w y nM kd th s ∧ FM g nM w0 w
theorem MS.mm (h : MS g w0 y nM kd th s w) : MM g w0 y nM kd w := ⟨h.1.rmo, h.2⟩
theorem MF.ext {w' : Hw} (h : MF g w y nM kd th s) (k : ext g w w') : MF g w' y nM kd th s := by
  obtain ⟨cL, pL, D1, D2, c1, c2, h1, h2, a1, a2, a3, a4, a5, a6, a7, a8, a9, b1, b2⟩ := h
  exact ⟨cL, pL, D1, D2, c1, c2, h1, h2, k.1 _ _ a1, k.1 _ _ a2, a3.ext k, fun i b z => (a4 i b z).ext k, a5.ext k, fun i b z => (a6 i b z).ext k, a7, a8, a9, fun i hi => (b1 i hi).mp fun _ _ z => z.ext k, fun i hi => (b2 i hi).imp fun _ z => ⟨z.1, z.2.ext k⟩⟩
theorem MS.ext {w' : Hw} (h : MS g w0 y nM kd th s w) (k : ext g w w') : MS g w0 y nM kd th s w' := ⟨h.1.ext k, h.2.ext k⟩
theorem MS.fr {q : Nat} {o : Ob} (h : MS g w0 y nM kd th s w) (hq : rd g w q = none) : MS g w0 y nM kd th s (upw w q o) := h.ext (ext_up2 ext.rf hq)
theorem MS.st (h : MS g w0 y nM kd th s w) : MS g w y nM kd th s w := ⟨h.1, FM.rf⟩
theorem MS.cat {kd' th' : Int32} {s' : AS} {w' : Hw} (h : MS g w0 y nM kd th s w) (k : MS g w y nM kd' th' s' w') : MS g w0 y nM kd' th' s' w' := ⟨k.1, h.2.tr k.2⟩
theorem MS.rA {b : Nat} {r : R4} {kd' th' : Int32} {s' : AS} {w' : Hw} (h : MS g w0 y nM kd th s w) (k : MS g w y nM kd' th' s' w') (hb : rowA w b r) : rowA w' b r := by
  obtain ⟨cL, pL, D1, D2, c1, c2, h1, h2, a1, a2, -⟩ := h.1
  exact k.2.1 _ _ hb (fun e => by
    subst e
    rw [hb] at a2
    cases a2) rfl
theorem MF.set {cL pL : Nat} {th0 kd' th' rf' md' rf0 md0 : Int32} (h : MF g w y nM kd th s) (hy : w y = some (.inr (7, [.int th0, .ref nM, .ref cL, .ref pL, .int rf0, .int kd, .int md0]))) : MF g (upw w y (.inr (7, [.int th', .ref nM, .ref cL, .ref pL, .int rf', .int kd', .int md']))) y nM kd' th' (sM_ (sR_ s rf') md') := by
  obtain ⟨cL1, pL1, D1, D2, c1, c2, h1, h2, a1, a2, a3, a4, a5, a6, a7, a8, a9, b1, b2⟩ := h
  rw [hy] at a1
  cases a1
  exact ⟨cL, pL, D1, D2, c1, c2, h1, h2, upw_s _ _ _, by rw [upw_n (ne_of a2 hy (fun e => by cases e))]; exact a2, a3.up hy (fun _ e => by cases e) (fun _ e => by cases e), fun i b z => isRow_up (a4 i b z) hy (fun _ e => by cases e), a5.up hy (fun _ e => by cases e) (fun _ e => by cases e), fun i b z => isRow_up (a6 i b z) hy (fun _ e => by cases e), a7, a8, a9, fun i hi => (b1 i hi).mp fun _ _ z => rowA_up z hy (fun _ e => by cases e), fun i hi => (b2 i hi).imp fun _ z => ⟨z.1, rowA_up z.2 hy (fun _ e => by cases e)⟩⟩
theorem MS.set {cL pL : Nat} {th0 kd' th' rf' md' rf0 md0 : Int32} (h : MS g w0 y nM kd th s w) (hy : w y = some (.inr (7, [.int th0, .ref nM, .ref cL, .ref pL, .int rf0, .int kd, .int md0]))) : MS g w0 y nM kd' th' (sM_ (sR_ s rf') md') (upw w y (.inr (7, [.int th', .ref nM, .ref cL, .ref pL, .int rf', .int kd', .int md']))) := ⟨h.1.set hy, h.2.up hy (Or.inr rfl)⟩
theorem MS.num (h : MS g w0 y nM kd th s w) (f' : Nat → Int64) : MS g w0 y nM kd th (sN s f') (upw w nM (.inl (0, 8, .inr (.inl f')))) := by
  obtain ⟨⟨cL, pL, D1, D2, c1, c2, h1, h2, a1, a2, a3, a4, a5, a6, a7, a8, a9, b1, b2⟩, hf⟩ := h
  exact ⟨⟨cL, pL, D1, D2, c1, c2, h1, h2, by rw [upw_n (ne_of a1 a2 (fun e => by cases e))]; exact a1, upw_s _ _ _, a3.up a2 (fun _ e => by cases e) (fun _ e => by cases e), fun i b z => isRow_up (a4 i b z) a2 (fun _ e => by cases e), a5.up a2 (fun _ e => by cases e) (fun _ e => by cases e), fun i b z => isRow_up (a6 i b z) a2 (fun _ e => by cases e), a7, a8, a9, fun i hi => (b1 i hi).mp fun _ _ z => rowA_up z a2 (fun _ e => by cases e), fun i hi => (b2 i hi).imp fun _ z => ⟨z.1, rowA_up z.2 a2 (fun _ e => by cases e)⟩⟩, hf.up a2 (Or.inl rfl)⟩
theorem go_S {K : List Value → Prop} (h : MS g w0 y nM kd th s w) (k : ∀ cL pL : Nat, isY w y nM cL pL → K [.int th, .ref nM, .ref cL, .ref pL, .int s.2.2.2.2.1, .int kd, .int s.2.2.2.2.2]) : go (rd g w y) 7 K := by
  obtain ⟨cL, pL, D1, D2, c1, c2, h1, h2, a1, -⟩ := h.1
  rw [rd_e a1, go_s]
  exact k _ _ ⟨_, _, _, _, a1⟩
theorem go_Sw {K : List Value → Prop} (h : MS g w0 y nM kd th s w) (k : ∀ cL pL : Nat, isY w y nM cL pL → (∀ th' rf' kd' md' : Int32, MS g w0 y nM kd' th' (sM_ (sR_ s rf') md') (upw w y (.inr (7, [.int th', .ref nM, .ref cL, .ref pL, .int rf', .int kd', .int md'])))) → K [.int th, .ref nM, .ref cL, .ref pL, .int s.2.2.2.2.1, .int kd, .int s.2.2.2.2.2]) : go (w y) 7 K := by
  have h0 := h.1
  obtain ⟨cL, pL, D1, D2, c1, c2, h1, h2, a1, -⟩ := h0
  rw [a1, go_s]
  exact k _ _ ⟨_, _, _, _, a1⟩ (fun _ _ _ _ => h.set a1)
theorem gl_S {K : Nat → (Nat → Int64) → Prop} (h : MS g w0 y nM kd th s w) (k : K 8 s.1) : gl (rd g w nM) 0 K := by
  obtain ⟨cL, pL, D1, D2, c1, c2, h1, h2, a1, a2, -⟩ := h.1
  rw [rd_e a2, gl_s]
  exact k
theorem gl_Sw {K : Nat → (Nat → Int64) → Prop} (h : MS g w0 y nM kd th s w) (k : (∀ f', MS g w0 y nM kd th (sN s f') (upw w nM (.inl (0, 8, .inr (.inl f'))))) → K 8 s.1) : gl (w nM) 0 K := by
  have h0 := h.1
  obtain ⟨cL, pL, D1, D2, c1, c2, h1, h2, a1, a2, -⟩ := h0
  rw [a2, gl_s]
  exact k (fun _ => h.num _)
theorem MF.yS {cL pL : Nat} (h : MF g w y nM kd th s) (hY : isY w y nM cL pL) : ∃ (D1 D2 c1 c2 : Nat) (h1 h2 : Nat → Option Nat), w y = some (.inr (7, [.int th, .ref nM, .ref cL, .ref pL, .int s.2.2.2.2.1, .int kd, .int s.2.2.2.2.2])) ∧ w nM = some (.inl (0, 8, .inr (.inl s.1))) ∧ LL g w cL D1 c1 6 h1 ∧ (∀ i b, h1 i = some b → isRow w b) ∧ LL g w pL D2 c2 s.2.2.1 h2 ∧ (∀ i b, h2 i = some b → isRow w b) ∧ s.2.2.1.toInt ≤ 12 ∧ cL ≠ pL ∧ D1 ≠ D2 ∧ (∀ i, i < 6 → cR w (h1 i) (s.2.1 i)) ∧ (∀ i : Nat, (i : Int) < s.2.2.1.toInt → ∃ b, h2 i = some b ∧ rowA w b (s.2.2.2.1 i)) ∧ w D1 = some (.inl (5, c1, qc h1)) ∧ (c1 = 10 ∨ c1 = 15) := by
  obtain ⟨cL1, pL1, D1, D2, c1, c2, h1, h2, a1, a2, a3, a4, a5, a6, a7, a8, a9, b1, b2⟩ := h
  obtain ⟨-, e1, e2⟩ := hY.un ⟨_, _, _, _, a1⟩
  subst e1 e2
  refine ⟨D1, D2, c1, c2, h1, h2, a1, a2, a3, a4, a5, a6, a7, a8, a9, b1, b2, ?_⟩
  rcases a3.2.1 with k | ⟨k, -⟩
  · exact k
  · have k2 := a3.2.2.2
    have e6 : (6 : Int32).toInt = 6 := rfl
    omega
theorem MS.gC {cL pL : Nat} (h : MS g w0 y nM kd th s w) (hY : isY w y nM cL pL) : go (rd g w cL) 3 fun _ => True := gtC h.mm hY
theorem MS.gP {cL pL : Nat} (h : MS g w0 y nM kd th s w) (hY : isY w y nM cL pL) : go (rd g w pL) 3 fun _ => True := gtP h.mm hY
theorem lt6c {a : Int32} (h : okC a) : a.toInt < (6 : Int32).toInt := i32_lt h.2
/-- what stands at a card -/
theorem sGetF {cL pL : Nat} {i : Int32} (hM : MS g w0 y nM kd th s w) (hY : isY w y nM cL pL) (k : okC i) (hN : s.2.1 i.toNatClampNeg = none → Q (.inl (some .null)) w) (hR : ∀ b r, s.2.1 i.toNatClampNeg = some r → rowA w b r → Q (.inl (some (.ref b))) w) : WP (MJx4a65c_get_915e3 g) Q (0, [some (.ref cL), some (.int i)], [], w, 0, 0) := by
  obtain ⟨D1, D2, c1, c2, h1, h2, a1, a2, a3, a4, a5, a6, a7, a8, a9, b1, b2, hD, hc⟩ := hM.1.yS hY
  have kk := b1 _ (c6 k)
  refine sJx4a65c_get a3 (i32_0 k.1) (lt6c k) (fun e => ?_) (fun b e => ?_)
  · rw [e] at kk
    exact hN kk.n
  · rw [e] at kk
    obtain ⟨r, e1, e2⟩ := kk.sm
    exact hR b r e1 e2
theorem sGetK {cL pL : Nat} {i : Int32} {r : R4} (hM : MS g w0 y nM kd th s w) (hY : isY w y nM cL pL) (k : okC i) (e : s.2.1 i.toNatClampNeg = some r) (hR : ∀ b, rowA w b r → Q (.inl (some (.ref b))) w) : WP (MJx4a65c_get_915e3 g) Q (0, [some (.ref cL), some (.int i)], [], w, 0, 0) := sGetF hM hY k (fun h => by
  rw [e] at h
  cases h) (fun b r' h hb => by
  rw [e] at h
  cases h
  exact hR b hb)
/-- the cards' array written -/
theorem MS.crd {cL pL D1 D2 c1 c2 j : Nat} {h1 h2 : Nat → Option Nat} {q : Option Nat} {o : Option R4} (h : MS g w0 y nM kd th s w) (a1 : w y = some (.inr (7, [.int th, .ref nM, .ref cL, .ref pL, .int s.2.2.2.2.1, .int kd, .int s.2.2.2.2.2]))) (a2 : w nM = some (.inl (0, 8, .inr (.inl s.1)))) (a3 : LL g w cL D1 c1 6 h1) (a4 : ∀ i b, h1 i = some b → isRow w b) (a5 : LL g w pL D2 c2 s.2.2.1 h2) (a6 : ∀ i b, h2 i = some b → isRow w b) (a7 : s.2.2.1.toInt ≤ 12) (a8 : cL ≠ pL) (a9 : D1 ≠ D2) (b1 : ∀ i, i < 6 → cR w (h1 i) (s.2.1 i)) (b2 : ∀ i : Nat, (i : Int) < s.2.2.1.toInt → ∃ b, h2 i = some b ∧ rowA w b (s.2.2.2.1 i)) (hD : w D1 = some (.inl (5, c1, qc h1))) (hc : c1 = 10 ∨ c1 = 15) (hq : cR w q o) : MS g w0 y nM kd th (sC s (va_up s.2.1 j o)) (upw w D1 (.inl (5, c1, qc (va_up h1 j q)))) := by
  have hr : ∀ i b, va_up h1 j q i = some b → isRow w b := va_up_row a4 (fun b0 e => by
    subst e
    obtain ⟨r, -, hr⟩ := hq.sm
    exact hr.row)
  obtain ⟨⟨mc, hL⟩, -, h3, h4⟩ := a3
  have up : ∀ b r, rowA w b r → rowA (upw w D1 (.inl (5, c1, qc (va_up h1 j q)))) b r := fun b r hb => rowA_up hb hD (fun _ e => by cases e)
  refine ⟨⟨cL, pL, D1, D2, c1, c2, _, h2, ?_, ?_, ⟨⟨mc, ?_⟩, Or.inl ⟨upw_s _ _ _, hc⟩, h3, h4⟩, fun i b z => isRow_up (hr i b z) hD (fun _ e => by cases e), ?_, fun i b z => isRow_up (a6 i b z) hD (fun _ e => by cases e), a7, a8, a9, fun i hi => cR.mp ?_ up, fun i hi => (b2 i hi).imp fun _ z => ⟨z.1, up _ _ z.2⟩⟩, h.2.up hD (Or.inr rfl)⟩
  · rw [upw_n (ne_of a1 hD (fun e => by cases e))]
    exact a1
  · rw [upw_n (ne_of a2 hD (fun e => by cases e))]
    exact a2
  · rw [upw_n (ne_of hL hD (fun e => by cases e))]
    exact hL
  · refine a5.kp (fun fs e => ?_) (fun z e => ?_) (fun o _ e => ?_)
    · rw [upw_n (ne_of e hD (fun e => by cases e))]
      exact e
    · rw [upw_n (Ne.symm a9)]
      exact e
    · rw [upw_n (Ne.symm a9)]
      exact e
  · show cR w (va_up h1 j q i) (va_up s.2.1 j o i)
    unfold va_up
    split
    · exact hq
    · exact b1 i hi
theorem sSetFR {cL pL b : Nat} {i : Int32} {r : R4} (hM : MS g w0 y nM kd th s w) (hY : isY w y nM cL pL) (hb : rowA w b r) (k : okC i) (hN : ∀ w', MS g w0 y nM kd th (sC s (va_up s.2.1 i.toNatClampNeg (some r))) w' → Q (.inl (some .null)) w') (hR : ∀ b0 w', MS g w0 y nM kd th (sC s (va_up s.2.1 i.toNatClampNeg (some r))) w' → Q (.inl (some (.ref b0))) w') : WP (MJx4a65c_set_bcc79 g) Q (0, [some (.ref cL), some (.int i), some (.ref b), none], [], w, 0, 0) := by
  obtain ⟨D1, D2, c1, c2, h1, h2, a1, a2, a3, a4, a5, a6, a7, a8, a9, b1, b2, hD, hc⟩ := hM.1.yS hY
  have hX := hM.crd a1 a2 a3 a4 a5 a6 a7 a8 a9 b1 b2 hD hc (j := i.toNatClampNeg) (q := some b) (o := some r) hb
  exact sJx4a65c_setR hb.row a3 hD (i32_0 k.1) (lt6c k) (fun _ => hN _ hX) (fun b0 _ => hR b0 _ hX)
theorem sSetFN {cL pL : Nat} {i : Int32} (hM : MS g w0 y nM kd th s w) (hY : isY w y nM cL pL) (k : okC i) (hN : ∀ w', MS g w0 y nM kd th (sC s (va_up s.2.1 i.toNatClampNeg none)) w' → Q (.inl (some .null)) w') (hR : ∀ b0 w', MS g w0 y nM kd th (sC s (va_up s.2.1 i.toNatClampNeg none)) w' → Q (.inl (some (.ref b0))) w') : WP (MJx4a65c_set_bcc79 g) Q (0, [some (.ref cL), some (.int i), some .null, none], [], w, 0, 0) := by
  obtain ⟨D1, D2, c1, c2, h1, h2, a1, a2, a3, a4, a5, a6, a7, a8, a9, b1, b2, hD, hc⟩ := hM.1.yS hY
  have hX := hM.crd a1 a2 a3 a4 a5 a6 a7 a8 a9 b1 b2 hD hc (j := i.toNatClampNeg) (q := none) (o := none) trivial
  exact sJx4a65c_setN a3 hD (i32_0 k.1) (lt6c k) (fun _ => hN _ hX) (fun b0 _ => hR b0 _ hX)
end
end
/-! 75.mf1.lean.txt -/
section
section
variable {g : RO} {Q : Ot → Hw → Prop} {w0 w : Hw} {y nM : Nat} {kd th : Int32} {s : AS}
theorem MS.n0 (h : MS g w0 y nM kd th s w) : 0 ≤ s.2.2.1.toInt ∧ s.2.2.1.toInt ≤ 12 := by
  obtain ⟨cL, pL, D1, D2, c1, c2, h1, h2, a1, a2, a3, a4, a5, a6, a7, -⟩ := h.1
  exact ⟨a5.2.2.1, a7⟩
theorem MS.nn (h : MS g w0 y nM kd th s w) : s.2.2.1.toInt = ((s.2.2.1.toInt.toNat : Nat) : Int) ∧ s.2.2.1.toInt.toNat ≤ 12 := by
  have k := h.n0
  omega
theorem sSizeF {cL pL : Nat} (hM : MS g w0 y nM kd th s w) (hY : isY w y nM cL pL) (hQ : Q (.inl (some (.int s.2.2.1))) w) : WP (MJx4a65c_size_8abf5 g) Q (0, [some (.ref pL)], [], w, 0, 0) := by
  obtain ⟨D1, D2, c1, c2, h1, h2, a1, a2, a3, a4, a5, -⟩ := hM.1.yS hY
  exact sJx4a65c_size a5 hQ
theorem sGetPF {cL pL : Nat} {i : Int32} (hM : MS g w0 y nM kd th s w) (hY : isY w y nM cL pL) (k : okP s.2.2.1 i) (hQ : ∀ b, rowA w b (s.2.2.2.1 i.toNatClampNeg) → Q (.inl (some (.ref b))) w) : WP (MJx4a65c_get_915e3 g) Q (0, [some (.ref pL), some (.int i)], [], w, 0, 0) := by
  obtain ⟨D1, D2, c1, c2, h1, h2, a1, a2, a3, a4, a5, a6, a7, a8, a9, b1, b2, hD, hc⟩ := hM.1.yS hY
  obtain ⟨b, hb, hr⟩ := b2 i.toNatClampNeg (plB k)
  refine sJx4a65c_get a5 (i32_0 k.1) (i32_lt k.2) (fun e => ?_) (fun b' e => ?_)
  · rw [hb] at e
    cases e
  · rw [hb] at e
    cases e
    exact hQ b hr
/-- the pile's list another -/
theorem MS.lpo {cL pL D1 D2 c1 c2 : Nat} {n' : Int32} {h1 h2 : Nat → Option Nat} {w' : Hw} {F : Nat → R4} {H : (Nat → Option Nat) → Prop} (h : MS g w0 y nM kd th s w) (a1 : w y = some (.inr (7, [.int th, .ref nM, .ref cL, .ref pL, .int s.2.2.2.2.1, .int kd, .int s.2.2.2.2.2]))) (a2 : w nM = some (.inl (0, 8, .inr (.inl s.1)))) (a3 : LL g w cL D1 c1 6 h1) (a4 : ∀ i b, h1 i = some b → isRow w b) (a5 : LL g w pL D2 c2 s.2.2.1 h2) (a8 : cL ≠ pL) (a9 : D1 ≠ D2) (b1 : ∀ i, i < 6 → cR w (h1 i) (s.2.1 i)) (hD : w D1 = some (.inl (5, c1, qc h1))) (hl : LPo g w w' pL D2 n' H) (hn : n'.toInt ≤ 12) (hH : ∀ h', H h' → ∀ i : Nat, (i : Int) < n'.toInt → ∃ b, h' i = some b ∧ rowA w b (F i)) : MS g w0 y nM kd th (sP_ s n' F) w' := by
  obtain ⟨D', c', h', l1, l2, f1, f2, fD, hh⟩ := hl
  have hL := a5.1
  obtain ⟨mcp, hL⟩ := hL
  have nD : ∀ {a : Nat} {o : Ob}, w a = some o → (∀ z, o ≠ .inl (5, z)) → a ≠ D2 := fun ha ho e => by
    rcases a5.2.1 with ⟨k, -⟩ | ⟨-, -, k, -⟩
    · rw [e, k] at ha
      cases ha
      exact ho _ rfl
    · rw [e, k] at ha
      cases ha
  have mv : ∀ {a : Nat} {o : Ob}, w a = some o → (∀ z, o ≠ .inl (5, z)) → (∀ fs, o ≠ .inr (3, fs)) → w' a = some o := fun ha h5 h3 => f1 _ _ ha (ne_of ha hL (h3 _)) (nD ha h5)
  have rw1 : ∀ b, isRow w b → isRow w' b := fun b ⟨f0, hb⟩ => ⟨f0, mv hb (fun _ e => by cases e) (fun _ e => by cases e)⟩
  have rw2 : ∀ b r, rowA w b r → rowA w' b r := fun b r hb => mv hb (fun _ e => by cases e) (fun _ e => by cases e)
  refine ⟨⟨cL, pL, D1, D', c1, c', h1, h', mv a1 (fun _ e => by cases e) (fun _ e => by cases e), mv a2 (fun _ e => by cases e) (fun _ e => by cases e), ?_, fun i b z => rw1 b (a4 i b z), l1, l2, hn, a8, ?_, fun i hi => (b1 i hi).mp rw2, fun i hi => (hH h' hh i hi).imp fun _ z => ⟨z.1, rw2 _ _ z.2⟩⟩, h.2.tr ⟨fun a o e1 e2 e3 => ?_, f2⟩⟩
  · refine a3.kp (fun fs e => f1 _ _ e a8 (nD e (fun _ e => by cases e))) (fun z e => f1 _ _ e (ne_of e hL (fun e => by cases e)) a9) (fun o e1 e2 => f2 _ _ e1 e2)
  · rcases fD with rfl | ⟨fD, -⟩
    · exact a9
    · intro e
      rw [e, fD] at hD
      cases hD
  · refine mv e1 (fun z e => ?_) (fun fs e => ?_)
    · subst e
      cases e3
    · subst e
      cases e3
theorem va_up4 {f : Nat → R4} {k : Nat} {r : R4} : va_up f k r k = r := by
  unfold va_up
  rw [if_pos rfl]
theorem va_up4o {f : Nat → R4} {k j : Nat} {r : R4} (e : j ≠ k) : va_up f k r j = f j := by
  unfold va_up
  rw [if_neg e]
theorem sAddF {cL pL b : Nat} {r : R4} (hM : MS g w0 y nM kd th s w) (hY : isY w y nM cL pL) (hE : EG g w0) (hS : SG g) (hb : rowA w b r) (hn : s.2.2.1 < 12) (hQ : ∀ w', MS g w0 y nM kd th (sP_ s (s.2.2.1 + 1) (va_up s.2.2.2.1 s.2.2.1.toNatClampNeg r)) w' → Q (.inl (some (.int 1))) w') : WP (MJx4a65c_add_9ea2d g) Q (0, [some (.ref pL), some (.ref b)], [], w, 0, 0) := by
  obtain ⟨D1, D2, c1, c2, h1, h2, a1, a2, a3, a4, a5, a6, a7, a8, a9, b1, b2, hD, hc⟩ := hM.1.yS hY
  have hlt := i32_lt hn
  have e12 : (12 : Int32).toInt = 12 := rfl
  have n0 := a5.2.2.1
  have e1 := i32p1 (c := s.2.2.1) n0 (by omega)
  refine sJx4a65c_add_9ea2dR hb.row (hM.mm.eg hE) hS a5 a6 (by omega) (fun w' hl => hQ _ (hM.lpo a1 a2 a3 a4 a5 a8 a9 b1 hD hl (by omega) (fun h' hh i hi => ?_)))
  have t : s.2.2.1.toNatClampNeg = s.2.2.1.toInt.toNat := rfl
  rcases Nat.lt_or_ge i s.2.2.1.toNatClampNeg with q | q
  · rw [hh.1 i q, va_up4o (by omega)]
    exact b2 i (by omega)
  · have : i = s.2.2.1.toNatClampNeg := by omega
    subst this
    rw [va_up4]
    exact ⟨b, hh.2, hb⟩
theorem sRemF {cL pL p : Nat} (hM : MS g w0 y nM kd th s w) (hY : isY w y nM cL pL) (hp : p < s.2.2.1.toInt.toNat) (hQ : ∀ b w', MS g w0 y nM kd th (sP_ s (s.2.2.1 - 1) (rmv s.2.2.2.1 p)) w' → Q (.inl (some (.ref b))) w') : WP (MJx4a65c_remove_915e3 g) Q (0, [some (.ref pL), some (.int (Int32.ofNat p)), none, none], [], w, 0, 0) := by
  have nn := hM.n0
  obtain ⟨D1, D2, c1, c2, h1, h2, a1, a2, a3, a4, a5, a6, a7, a8, a9, b1, b2, hD, hc⟩ := hM.1.yS hY
  have z1' : (1 : Int32).toInt = 1 := rfl
  have ep : (Int32.ofNat p).toInt = (p : Int) := oNt (by omega)
  have ec : (Int32.ofNat p).toNatClampNeg = p := oNc (by omega)
  have e1 : (s.2.2.1 - 1).toInt = s.2.2.1.toInt - 1 := by rw [i32_sub (by omega) (by omega), z1']
  have t : s.2.2.1.toNatClampNeg = s.2.2.1.toInt.toNat := rfl
  have hX : ∀ w', LPo g w w' pL D2 (s.2.2.1 - 1) (HRm h2 s.2.2.1.toNatClampNeg (Int32.ofNat p).toNatClampNeg) → MS g w0 y nM kd th (sP_ s (s.2.2.1 - 1) (rmv s.2.2.2.1 p)) w' := fun w' hl => hM.lpo a1 a2 a3 a4 a5 a8 a9 b1 hD hl (by omega) (fun h' hh i hi => by
    rw [ec] at hh
    unfold rmv
    rcases Nat.lt_or_ge i p with q | q
    · rw [hh.1 i q, if_pos q]
      exact b2 i (by omega)
    · rw [hh.2 i q (by omega), if_neg (by omega)]
      exact b2 (i + 1) (by omega))
  refine sJx4a65c_remove_915e3 a5 a6 (by omega) (by omega) (fun e => ?_) (fun b _ w' hl => hQ b w' (hX w' hl))
  rw [ec] at e
  obtain ⟨b, hb, -⟩ := b2 p (by omega)
  rw [hb] at e
  cases e
theorem rowA_cg {b : Nat} {r r' : R4} (h : rowA w b r) (e : r = r') : rowA w b r' := by
  rw [← e]
  exact h
theorem MS.pcg {n : Int32} {F G : Nat → R4} (h : MS g w0 y nM kd th (sP_ s n F) w) (e : ∀ i : Nat, (i : Int) < n.toInt → F i = G i) : MS g w0 y nM kd th (sP_ s n G) w := by
  obtain ⟨⟨cL, pL, D1, D2, c1, c2, h1, h2, a1, a2, a3, a4, a5, a6, a7, a8, a9, b1, b2⟩, hf⟩ := h
  exact ⟨⟨cL, pL, D1, D2, c1, c2, h1, h2, a1, a2, a3, a4, a5, a6, a7, a8, a9, b1, fun i hi => (b2 i hi).imp fun _ z => ⟨z.1, rowA_cg z.2 (e i hi)⟩⟩, hf⟩
end
end
/-! 75.mf2.lean.txt -/
section
section
variable {g : RO} {Q : Ot → Hw → Prop} {w0 w : Hw} {y nM : Nat} {kd th : Int32} {s : AS}
theorem itx {c : Prop} {i : Decidable c} {A B : Prop} (h1 : c → A) (h2 : ¬ c → B) : @ite Prop c i A B := by
  by_cases h : c
  · rw [if_pos h]
    exact h1 h
  · rw [if_neg h]
    exact h2 h
theorem n00x {P : Prop} (h : ¬ (0 : Int32) = 0) : P := absurd rfl h
theorem lt8m {a : Int32} (h : ¬ 7 < a) : a < 8 := by
  have k := i32_nlt h
  have e7 : (7 : Int32).toInt = 7 := rfl
  have e8 : (8 : Int32).toInt = 8 := rfl
  exact i32_of_lt (by omega)
theorem lt6m {a : Int32} (h : ¬ 5 < a) : a < 6 := by
  have k := i32_nlt h
  have e7 : (5 : Int32).toInt = 5 := rfl
  have e8 : (6 : Int32).toInt = 6 := rfl
  exact i32_of_lt (by omega)
theorem nokN {a : Int32} (h : a < 0 ∨ 7 < a) : ¬ okN a := fun k => by
  rcases h with h | h
  · exact k.1 h
  · have q := i32_lt h
    have q2 := i32_lt k.2
    have e7 : (7 : Int32).toInt = 7 := rfl
    have e8 : (8 : Int32).toInt = 8 := rfl
    omega
theorem nokC {a : Int32} (h : a < 0 ∨ 5 < a) : ¬ okC a := fun k => by
  rcases h with h | h
  · exact k.1 h
  · have q := i32_lt h
    have q2 := i32_lt k.2
    have e7 : (5 : Int32).toInt = 5 := rfl
    have e8 : (6 : Int32).toInt = 6 := rfl
    omega
theorem nokW {a m : Int32} (h : a < 0 ∨ m < a) : ¬ okW a m := fun k => h.elim k.1 k.2
theorem vpi8k {a : Int32} (h : okN a) : vp_in a 8 := vpi8 h.1 h.2
theorem vpi4k {a : Int32} (h : okW a 3) : vp_in a 4 := vpi4n h.1 h.2
theorem tdE (V : Int) : V.tdiv 4294967296 = if 0 ≤ V then V / 4294967296 else -((-V) / 4294967296) := by
  split
  · rename_i h
    exact Int.tdiv_eq_ediv_of_nonneg h
  · rename_i h
    obtain ⟨W, e⟩ : ∃ W, V = -W := ⟨-V, by omega⟩
    subst e
    rw [Int.neg_tdiv, Int.tdiv_eq_ediv_of_nonneg (by omega), Int.neg_neg]
theorem eT : (4294967296 : Int64).toInt = 4294967296 := by decide
theorem jadd {x y : Int64} (h1 : -9223372036854775808 ≤ x.toInt + y.toInt) (h2 : x.toInt + y.toInt < 9223372036854775808) : (x + y).toInt = x.toInt + y.toInt := by
  rw [Int64.toInt_add]
  exact Int.bmod_eq_of_le (by omega) (by omega)
theorem jsub {x y : Int64} (h1 : -9223372036854775808 ≤ x.toInt - y.toInt) (h2 : x.toInt - y.toInt < 9223372036854775808) : (x - y).toInt = x.toInt - y.toInt := by
  rw [Int64.toInt_sub]
  exact Int.bmod_eq_of_le (by omega) (by omega)
theorem jint {x : Int64} (h1 : -2147483648 ≤ x.toInt) (h2 : x.toInt < 2147483648) : x.toInt32.toInt = x.toInt := by
  rw [Int64.toInt_toInt32]
  exact Int.bmod_eq_of_le (by omega) (by omega)
theorem muT {x : Int64} (h1 : -2147483648 ≤ x.toInt) (h2 : x.toInt < 2147483648) : (x * 4294967296).toInt = x.toInt * 4294967296 := by
  rw [Int64.toInt_mul, eT]
  exact Int.bmod_eq_of_le (by omega) (by omega)
theorem dvT {x : Int64} : (x / 4294967296).toInt = if 0 ≤ x.toInt then x.toInt / 4294967296 else -((-x.toInt) / 4294967296) := by
  rw [Int64.toInt_div_of_ne_right _ _ (by decide), eT, tdE]
theorem rmT {x : Int64} : (x - x / 4294967296 * 4294967296).toInt = if 0 ≤ x.toInt then x.toInt % 4294967296 else -((-x.toInt) % 4294967296) := by
  have l0 : -9223372036854775808 ≤ x.toInt := x.le_toInt
  have l1 : x.toInt < 9223372036854775808 := x.toInt_lt
  have d := dvT (x := x)
  have b : -2147483648 ≤ (x / 4294967296).toInt ∧ (x / 4294967296).toInt < 2147483648 := by
    rw [d]
    split <;> omega
  have m := muT b.1 b.2
  rw [d] at m
  have q : (x - x / 4294967296 * 4294967296).toInt = x.toInt - (x / 4294967296 * 4294967296).toInt := jsub (by rw [m]; split <;> omega) (by rw [m]; split <;> omega)
  rw [q, m]
  split <;> omega
/-- the lower half, not below 0 -/
theorem mdT {v : Int64} : ((v - v / 4294967296 * 4294967296 + 4294967296) - (v - v / 4294967296 * 4294967296 + 4294967296) / 4294967296 * 4294967296).toInt = v.toInt % 4294967296 := by
  have h1 := rmT (x := v)
  obtain ⟨x1, e1⟩ : ∃ x1, v - v / 4294967296 * 4294967296 = x1 := ⟨_, rfl⟩
  rw [e1] at h1 ⊢
  have b : -4294967296 < x1.toInt ∧ x1.toInt < 4294967296 := by
    rw [h1]
    split <;> omega
  have h2 : (x1 + 4294967296).toInt = x1.toInt + 4294967296 := by
    rw [jadd (by rw [eT]; omega) (by rw [eT]; omega), eT]
  have h3 := rmT (x := x1 + 4294967296)
  rw [h2, if_pos (by omega)] at h3
  rw [h3, h1]
  split <;> omega
theorem shT {v : Int64} : (v >>> ((32 : Int32).toInt64 &&& 63)).toInt = v.toInt / 4294967296 := by
  have e : (((32 : Int32).toInt64 &&& 63).toBitVec.smod 64) = 32#64 := by decide
  show (v.toBitVec.sshiftRight' (((32 : Int32).toInt64 &&& 63).toBitVec.smod 64)).toInt = _
  rw [e, BitVec.toInt_sshiftRight', Int.shiftRight_eq_div_pow]
  rfl
theorem hiE {v : Int64} : ((v - ((v - v / 4294967296 * 4294967296 + 4294967296) - (v - v / 4294967296 * 4294967296 + 4294967296) / 4294967296 * 4294967296)) / 4294967296).toInt32 = hiV v := by
  have m := mdT (v := v)
  obtain ⟨x2, e2⟩ : ∃ x2, (v - v / 4294967296 * 4294967296 + 4294967296) - (v - v / 4294967296 * 4294967296 + 4294967296) / 4294967296 * 4294967296 = x2 := ⟨_, rfl⟩
  rw [e2] at m ⊢
  have l0 : -9223372036854775808 ≤ v.toInt := v.le_toInt
  have l1 : v.toInt < 9223372036854775808 := v.toInt_lt
  have h1 : (v - x2).toInt = v.toInt - v.toInt % 4294967296 := by
    rw [jsub (by rw [m]; omega) (by rw [m]; omega), m]
  have h2 := dvT (x := v - x2)
  rw [h1] at h2
  have h4 : ((v - x2) / 4294967296).toInt = v.toInt / 4294967296 := by
    rw [h2]
    split <;> omega
  have h3 := shT (v := v)
  apply Int32.toInt_inj.mp
  unfold hiV
  rw [jint (by rw [h4]; omega) (by rw [h4]; omega), jint (by rw [h3]; omega) (by rw [h3]; omega), h4, h3]
theorem loE {v : Int64} : ((v - v / 4294967296 * 4294967296 + 4294967296) - (v - v / 4294967296 * 4294967296 + 4294967296) / 4294967296 * 4294967296).toInt32 = loV v := by
  apply Int32.toInt_inj.mp
  unfold loV
  rw [Int64.toInt_toInt32, Int64.toInt_toInt32, mdT]
  have t : ((2 ^ 32 : Nat) : Int) = 4294967296 := by decide
  rw [← t]
  exact Int.emod_bmod ..
theorem loS {x : Int64} (h : -9223372032559808512 ≤ x.toInt) : (x - 4294967296).toInt32 = x.toInt32 := by
  apply Int32.toInt_inj.mp
  rw [Int64.toInt_toInt32, Int64.toInt_toInt32, jsub (by rw [eT]; omega) (by rw [eT]; have : x.toInt < 9223372036854775808 := x.toInt_lt; omega), eT]
  have t : ((2 ^ 32 : Nat) : Int) = 4294967296 := by decide
  rw [← t]
  exact Int.sub_bmod_right ..
theorem loE2 {v : Int64} : (((v - v / 4294967296 * 4294967296 + 4294967296) - (v - v / 4294967296 * 4294967296 + 4294967296) / 4294967296 * 4294967296) - 4294967296).toInt32 = loV v := by
  rw [loS (by rw [mdT]; omega), loE]
theorem slT {x : Int64} : x <<< ((32 : Int32).toInt64 &&& 63) = x * 4294967296 := by
  apply Int64.toBitVec_inj.mp
  have e : (((32 : Int32).toInt64 &&& 63).toBitVec.smod 64) = 32#64 := by decide
  show x.toBitVec <<< (((32 : Int32).toInt64 &&& 63).toBitVec.smod 64) = x.toBitVec * 4294967296#64
  rw [e]
  show x.toBitVec <<< (32 : Nat) = _
  rw [BitVec.shiftLeft_eq_mul_twoPow]
  rfl
theorem mkT {x : Int64} : (x &&& 4294967295).toInt = x.toInt % 4294967296 := by
  have e1 : (x &&& 4294967295).toBitVec.toNat = x.toBitVec.toNat % 4294967296 := by
    show (x.toBitVec &&& 4294967295#64).toNat = _
    rw [BitVec.toNat_and]
    exact Nat.and_two_pow_sub_one_eq_mod _ 32
  have e2 : (x &&& 4294967295).toInt = (x &&& 4294967295).toBitVec.toInt := rfl
  have e3 : x.toInt = x.toBitVec.toInt := rfl
  have lt := x.toBitVec.isLt
  rw [e2, e3, BitVec.toInt_eq_toNat_cond, BitVec.toInt_eq_toNat_cond, e1]
  split <;> split <;> omega
theorem stA {a b : BitVec 64} : (a <<< (32 : Nat)) &&& (b &&& 4294967295#64) = 0#64 := by
  apply BitVec.eq_of_getLsbD_eq
  intro i hi
  have e : (4294967295#64).getLsbD i = decide (i < 32) := Nat.testBit_two_pow_sub_one 32 i
  rw [BitVec.getLsbD_and, BitVec.getLsbD_and, BitVec.getLsbD_shiftLeft, e]
  by_cases h : i < 32 <;> simp [h]
theorem stO {h l : Int32} : stV h l = h.toInt64 * 4294967296 + (l.toInt64 &&& 4294967295) := by
  rw [← slT]
  apply Int64.toBitVec_inj.mp
  unfold stV
  have e : (((32 : Int32).toInt64 &&& 63).toBitVec.smod 64) = 32#64 := by decide
  show (h.toInt64.toBitVec <<< (((32 : Int32).toInt64 &&& 63).toBitVec.smod 64)) ||| (l.toInt64.toBitVec &&& 4294967295#64) = (h.toInt64.toBitVec <<< (((32 : Int32).toInt64 &&& 63).toBitVec.smod 64)) + (l.toInt64.toBitVec &&& 4294967295#64)
  rw [e]
  exact (BitVec.add_eq_or_of_and_eq_zero _ _ (stA (a := h.toInt64.toBitVec) (b := l.toInt64.toBitVec))).symm
theorem i64i (x : Int32) : x.toInt64.toInt = x.toInt := Int32.toInt_toInt64 x
theorem stI {h l : Int32} : (stV h l).toInt = h.toInt * 4294967296 + l.toInt % 4294967296 := by
  have b0 : -2147483648 ≤ h.toInt := h.le_toInt
  have b1 : h.toInt < 2147483648 := h.toInt_lt
  have a1 := muT (x := h.toInt64) (by rw [i64i]; exact b0) (by rw [i64i]; exact b1)
  have a2 := mkT (x := l.toInt64)
  rw [i64i] at a1 a2
  rw [stO, jadd (by rw [a1, a2]; omega) (by rw [a1, a2]; omega), a1, a2]
theorem stN {h l : Int32} (k : l < 0) : h.toInt64 * 4294967296 + (l.toInt64 + 4294967296) = stV h l := by
  apply Int64.toInt_inj.mp
  have b0 : -2147483648 ≤ h.toInt := h.le_toInt
  have b1 : h.toInt < 2147483648 := h.toInt_lt
  have c0 : -2147483648 ≤ l.toInt := l.le_toInt
  have k1 := i32_lt k
  have e0 : (0 : Int32).toInt = 0 := rfl
  have m := muT (x := h.toInt64) (by rw [i64i]; exact b0) (by rw [i64i]; exact b1)
  rw [i64i] at m
  have a : (l.toInt64 + 4294967296).toInt = l.toInt + 4294967296 := by rw [jadd (by rw [i64i, eT]; omega) (by rw [i64i, eT]; omega), i64i, eT]
  rw [stI, jadd (by rw [m, a]; omega) (by rw [m, a]; omega), m, a]
  omega
theorem stP {h l : Int32} (k : ¬ l < 0) : h.toInt64 * 4294967296 + l.toInt64 = stV h l := by
  apply Int64.toInt_inj.mp
  have b0 : -2147483648 ≤ h.toInt := h.le_toInt
  have b1 : h.toInt < 2147483648 := h.toInt_lt
  have c0 : l.toInt < 2147483648 := l.toInt_lt
  have k1 := i32_nlt k
  have e0 : (0 : Int32).toInt = 0 := rfl
  have m := muT (x := h.toInt64) (by rw [i64i]; exact b0) (by rw [i64i]; exact b1)
  rw [i64i] at m
  rw [stI, jadd (by rw [m, i64i]; omega) (by rw [m, i64i]; omega), m, i64i]
  omega
theorem hfV_e {a : Int64} {h : Int32} (k : h = 0) : hfV a h = loV a := if_pos k
set_option maxHeartbeats 4000000 in
theorem fX3_isIn {a b c : Int32} (h1 : ¬ a < b → ¬ c < a → Q (.inl (some (.int 1))) w) (h0 : (a < b ∨ c < a) → Q (.inl (some (.int 0))) w) : WP (MX3_isIn g) Q (0, [some (.int a), some (.int b), some (.int c)], [], w, 0, 0) := by
  simp only [eX3_isIn_0, eX3_isIn_5, eX3_isIn_10, eX3_isIn_14, eX3_isIn_15, nb_0, nb_1, true_and]
  with_reducible refine itx (fun _ => ?_) (fun _ => ?_)
  with_reducible refine And.intro ?_ ?_
  omega
  with_reducible refine And.intro ?_ ?_
  omega
  with_reducible exact h0 (Or.inl (by assumption))
  with_reducible refine itx (fun _ => ?_) (fun _ => ?_)
  with_reducible refine And.intro ?_ ?_
  omega
  with_reducible refine And.intro ?_ ?_
  omega
  with_reducible exact h0 (Or.inr (by assumption))
  with_reducible refine And.intro ?_ ?_
  omega
  with_reducible refine And.intro ?_ ?_
  omega
  with_reducible exact h1 (by assumption) (by assumption)
set_option maxHeartbeats 4000000 in
theorem fX3_isNoNumber {a : Int32} (h1 : ¬ okN a → Q (.inl (some (.int 1))) w) (h0 : okN a → Q (.inl (some (.int 0))) w) : WP (MX3_isNoNumber g) Q (0, [some (.int a)], [], w, 0, 0) := by
  simp only [eX3_isNoNumber_0, wt_nil, Nat.add_zero]
  with_reducible refine And.intro ?_ ?_
  omega
  with_reducible refine And.intro ?_ ?_
  omega
  with_reducible refine And.intro ?_ ?_
  omega
  with_reducible refine fX3_isIn (fun _ _ => ?_) (fun _ => ?_)
  simp only [eX3_isNoNumber_7, eX3_isNoNumber_10, eX3_isNoNumber_14, eX3_isNoNumber_15, i10, if_false, kx_l, tl_s, nb_0, nb_1, true_and]
  with_reducible refine And.intro ?_ ?_
  omega
  with_reducible refine And.intro ?_ ?_
  omega
  with_reducible exact h0 ⟨by assumption, lt8m (by assumption)⟩
  simp only [eX3_isNoNumber_7, eX3_isNoNumber_10, eX3_isNoNumber_14, eX3_isNoNumber_15, if_true, kx_l, tl_s, nb_0, nb_1, true_and]
  with_reducible refine And.intro ?_ ?_
  omega
  with_reducible refine And.intro ?_ ?_
  omega
  with_reducible exact h1 (nokN (by assumption))
set_option maxHeartbeats 4000000 in
theorem fX3_isNoCard {a : Int32} (h1 : ¬ okC a → Q (.inl (some (.int 1))) w) (h0 : okC a → Q (.inl (some (.int 0))) w) : WP (MX3_isNoCard g) Q (0, [some (.int a)], [], w, 0, 0) := by
  simp only [eX3_isNoCard_0, wt_nil, Nat.add_zero]
  with_reducible refine And.intro ?_ ?_
  omega
  with_reducible refine And.intro ?_ ?_
  omega
  with_reducible refine And.intro ?_ ?_
  omega
  with_reducible refine fX3_isIn (fun _ _ => ?_) (fun _ => ?_)
  simp only [eX3_isNoCard_6, eX3_isNoCard_9, eX3_isNoCard_13, eX3_isNoCard_14, i10, if_false, kx_l, tl_s, nb_0, nb_1, true_and]
  with_reducible refine And.intro ?_ ?_
  omega
  with_reducible refine And.intro ?_ ?_
  omega
  with_reducible exact h0 ⟨by assumption, lt6m (by assumption)⟩
  simp only [eX3_isNoCard_6, eX3_isNoCard_9, eX3_isNoCard_13, eX3_isNoCard_14, if_true, kx_l, tl_s, nb_0, nb_1, true_and]
  with_reducible refine And.intro ?_ ?_
  omega
  with_reducible refine And.intro ?_ ?_
  omega
  with_reducible exact h1 (nokC (by assumption))
set_option maxHeartbeats 4000000 in
theorem fX3_isNoEnd {a : Int32} (h1 : ¬ okW a 3 → Q (.inl (some (.int 1))) w) (h0 : okW a 3 → Q (.inl (some (.int 0))) w) : WP (MX3_isNoEnd g) Q (0, [some (.int a)], [], w, 0, 0) := by
  simp only [eX3_isNoEnd_0, wt_nil, Nat.add_zero]
  with_reducible refine And.intro ?_ ?_
  omega
  with_reducible refine And.intro ?_ ?_
  omega
  with_reducible refine And.intro ?_ ?_
  omega
  with_reducible refine fX3_isIn (fun _ _ => ?_) (fun _ => ?_)
  simp only [eX3_isNoEnd_6, eX3_isNoEnd_9, eX3_isNoEnd_13, eX3_isNoEnd_14, i10, if_false, kx_l, tl_s, nb_0, nb_1, true_and]
  with_reducible refine And.intro ?_ ?_
  omega
  with_reducible refine And.intro ?_ ?_
  omega
  with_reducible exact h0 ⟨by assumption, by assumption⟩
  simp only [eX3_isNoEnd_6, eX3_isNoEnd_9, eX3_isNoEnd_13, eX3_isNoEnd_14, if_true, kx_l, tl_s, nb_0, nb_1, true_and]
  with_reducible refine And.intro ?_ ?_
  omega
  with_reducible refine And.intro ?_ ?_
  omega
  with_reducible exact h1 (nokW (by assumption))
theorem MF.op (h : MF g w y nM kd th s) : ∃ cL pL : Nat, w y = some (.inr (7, [.int th, .ref nM, .ref cL, .ref pL, .int s.2.2.2.2.1, .int kd, .int s.2.2.2.2.2])) ∧ rd g w y = some (.inr (7, [.int th, .ref nM, .ref cL, .ref pL, .int s.2.2.2.2.1, .int kd, .int s.2.2.2.2.2])) := by
  obtain ⟨cL, pL, D1, D2, c1, c2, h1, h2, a1, -⟩ := h
  exact ⟨cL, pL, a1, rd_e a1⟩
set_option maxHeartbeats 4000000 in
theorem fX3_refuse {a c : Int32} (hM : MS g w0 y nM kd 0 s w) (hc : 0 < c) (h0 : a = 0 → Q (.inl (some (.int 0))) w) (h1 : ¬ a = 0 → ∀ w', MS g w0 y nM kd c s w' → Q (.inl (some (.int 1))) w') : WP (MX3_refuse g) Q (0, [some (.ref y), some (.int a), some (.int c)], [], w, 0, 0) := by
  obtain ⟨cL, pL, hy, ry⟩ := hM.1.op
  have q1 : (c ≤ 0) = False := eq_false (fun h => absurd hc (Int32.not_lt.mpr h))
  have q2 : ((0 : Int32) ≤ 0) = True := eq_true (Int32.le_refl _)
  have q3 : ((0 : Int32) < 0) = False := eq_false (by decide)
  have q4 : (0 < c) = True := eq_true hc
  simp only [eX3_refuse_0, eX3_refuse_4, eX3_refuse_8, eX3_refuse_11, eX3_refuse_16, eX3_refuse_20, eX3_refuse_23, eX3_refuse_27, eX3_refuse_28, if_true, if_false, hy, ry, q1, q2, go_s, g0, ex1, nb_0, nb_1, nf_i, true_and, List.set_cons_zero, List.length_cons, List.length_nil, rd_s, Nat.zero_add]
  with_reducible refine itx (fun _ => ?_) (fun _ => ?_)
  with_reducible refine And.intro ?_ ?_
  omega
  with_reducible refine And.intro ?_ ?_
  omega
  with_reducible exact h0 (by assumption)
  with_reducible refine And.intro ?_ ?_
  omega
  with_reducible refine And.intro ?_ ?_
  omega
  with_reducible refine And.intro ?_ ?_
  omega
  ((with_reducible refine isQ (Q := Q) ?_); exact h1 (by assumption) _ (hM.set hy))
set_option maxHeartbeats 4000000 in
theorem fX3_start {a c : Int32} (hM : MS g w0 y nM kd th s w) (hc : 0 < c) (h0 : a = 0 → ∀ w', MS g w0 y nM kd 0 s w' → Q (.inl (some (.int 0))) w') (h1 : ¬ a = 0 → ∀ w', MS g w0 y nM kd c s w' → Q (.inl (some (.int 1))) w') : WP (MX3_start g) Q (0, [some (.ref y), some (.int a), some (.int c)], [], w, 0, 0) := by
  obtain ⟨cL, pL, hy, ry⟩ := hM.1.op
  have hz : MS g w0 y nM kd 0 s (upw w y (.inr (7, [.int 0, .ref nM, .ref cL, .ref pL, .int s.2.2.2.2.1, .int kd, .int s.2.2.2.2.2]))) := hM.set hy
  simp only [eX3_start_0, eX3_start_5, hy, go_s, wt_nil, nf_i, true_and, List.set_cons_zero, List.length_cons, List.length_nil, rd_s, Nat.zero_add, Nat.add_zero]
  with_reducible refine And.intro ?_ ?_
  omega
  with_reducible refine And.intro ?_ ?_
  omega
  with_reducible refine And.intro ?_ ?_
  omega
  with_reducible refine And.intro ?_ ?_
  omega
  with_reducible refine fX3_refuse hz hc (fun _ => ?_) (fun _ _ _ => ?_)
  simp only [eX3_start_11, kx_l, tl_s, nb_0, true_and]
  with_reducible refine And.intro ?_ ?_
  omega
  with_reducible refine And.intro ?_ ?_
  omega
  with_reducible exact h0 (by assumption) _ hz
  simp only [eX3_start_11, kx_l, tl_s, nb_1, true_and]
  with_reducible refine And.intro ?_ ?_
  omega
  with_reducible refine And.intro ?_ ?_
  omega
  with_reducible exact h1 (by assumption) _ (by assumption)
set_option maxHeartbeats 4000000 in
theorem fX3_no  (hM : MS g w0 y nM kd th s w) (hQ : ∀ w', MS g w0 y nM kd th (sRf s) w' → Q (.inl (some (.int (-9)))) w') : WP (MX3_no g) Q (0, [some (.ref y)], [], w, 0, 0) := by
  obtain ⟨cL, pL, hy, ry⟩ := hM.1.op
  simp only [eX3_no_0, eX3_no_5, eX3_no_10, hy, ry, go_s, g0, gS, ex1, nf_i, true_and, List.set_cons_zero, List.set_cons_succ, List.length_cons, List.length_nil, Nat.zero_add]
  with_reducible refine And.intro ?_ ?_
  omega
  with_reducible refine And.intro ?_ ?_
  omega
  with_reducible refine And.intro ?_ ?_
  omega
  ((with_reducible refine isQ (Q := Q) ?_); exact hQ _ (hM.set hy))
set_option maxHeartbeats 4000000 in
theorem fX3_knock  (hM : MS g w0 y nM kd th s w) (hQ : ∀ w', MS g w0 y nM (kd + 1) 0 s w' → Q (.inl (some (.int (kd + 1)))) w') : WP (MX3_knock g) Q (0, [some (.ref y)], [], w, 0, 0) := by
  obtain ⟨cL, pL, hy, ry⟩ := hM.1.op
  simp only [eX3_knock_0, eX3_knock_5, eX3_knock_10, eX3_knock_15, eX3_knock_19, upw2q, hy, go_s, g0, gS, ex1, nf_i, true_and, List.set_cons_zero, List.set_cons_succ, List.length_cons, List.length_nil, rd_s, upw_s, Nat.zero_add]
  with_reducible refine And.intro ?_ ?_
  omega
  with_reducible refine And.intro ?_ ?_
  omega
  with_reducible refine And.intro ?_ ?_
  omega
  with_reducible refine And.intro ?_ ?_
  omega
  ((with_reducible refine isQ (Q := Q) ?_); exact hQ _ (hM.set hy))
set_option maxHeartbeats 4000000 in
theorem fX3_isSound  (hM : MS g w0 y nM kd th s w) (hQ : ∀ w', MS g w0 y nM kd 0 s w' → Q (.inl (some (.int 1))) w') : WP (MX3_isSound g) Q (0, [some (.ref y)], [], w, 0, 0) := by
  obtain ⟨cL, pL, hy, ry⟩ := hM.1.op
  simp only [eX3_isSound_0, eX3_isSound_5, hy, go_s, nb_1, nf_i, true_and, List.set_cons_zero, List.length_cons, List.length_nil, Nat.zero_add]
  with_reducible refine And.intro ?_ ?_
  omega
  with_reducible refine And.intro ?_ ?_
  omega
  with_reducible refine And.intro ?_ ?_
  omega
  ((with_reducible refine isQ (Q := Q) ?_); exact hQ _ (hM.set hy))
set_option maxHeartbeats 4000000 in
theorem fX3_high {a : Int64} (hQ : Q (.inl (some (.int (hiV a)))) w) : WP (MX3_high g) Q (0, [some (.long a), none], [], w, 0, 0) := by
  simp only [eX3_high_0, eX3_high_6, eX3_high_14, eX3_high_19, hiE]
  with_reducible refine And.intro ?_ ?_
  with_reducible exact n4g
  with_reducible refine And.intro ?_ ?_
  with_reducible exact n4g
  with_reducible refine And.intro ?_ ?_
  with_reducible exact n4g
  with_reducible refine And.intro ?_ ?_
  omega
  with_reducible refine And.intro ?_ ?_
  omega
  with_reducible assumption
set_option maxHeartbeats 4000000 in
theorem fX3_low {a : Int64} (hQ : Q (.inl (some (.int (loV a)))) w) : WP (MX3_low g) Q (0, [some (.long a), none, none, none], [], w, 0, 0) := by
  simp only [eX3_low_0, eX3_low_5, eX3_low_13, eX3_low_22, eX3_low_30, eX3_low_31, lgp, lmx, loE2, loE, ite_le, nl_none]
  with_reducible refine And.intro ?_ ?_
  with_reducible exact n4g
  with_reducible refine And.intro ?_ ?_
  with_reducible exact n4g
  with_reducible refine ite_cs ?_ ?_
  with_reducible refine And.intro ?_ ?_
  omega
  with_reducible refine And.intro ?_ ?_
  omega
  with_reducible assumption
  with_reducible refine And.intro ?_ ?_
  omega
  with_reducible refine And.intro ?_ ?_
  omega
  with_reducible assumption
set_option maxHeartbeats 4000000 in
theorem fX3_one {a : Int32} (h0 : a = 0 ∨ a = 1) (hQ : Q (.inl (some (.int a))) w) : WP (MX3_one g) Q (0, [some (.int a)], [], w, 0, 0) := by
  rcases h0 with rfl | rfl
  · skip
    simp only [eX3_one_0, eX3_one_4, eX3_one_8, eX3_one_9, if_true]
    with_reducible refine And.intro ?_ ?_
    omega
    with_reducible refine And.intro ?_ ?_
    omega
    with_reducible assumption
  · skip
    simp only [eX3_one_0, eX3_one_4, eX3_one_8, eX3_one_9, i10, if_false]
    with_reducible refine And.intro ?_ ?_
    omega
    with_reducible refine And.intro ?_ ?_
    omega
    with_reducible assumption
set_option maxHeartbeats 4000000 in
theorem fX3_become {a : Int32} {b : Int64} (hM : MS g w0 y nM kd th s w) (k : okN a) (hQ : ∀ w', MS g w0 y nM kd th (sN s (vp_updL s.1 a.toNatClampNeg b)) w' → Q (.inl (some (.int (loV b)))) w') : WP (MX3_become g) Q (0, [some (.ref y), some (.int a), some (.long b), none], [], w, 0, 0) := by
  simp only [eX3_become_0, eX3_become_4]
  with_reducible refine go_S (by assumption) (fun _ _ hY => ?_)
  simp only [eX3_become_6, eX3_become_7, wt_nil, g0, gS, ex1, Nat.add_zero]
  with_reducible refine gl_Sw hM (fun hf => ?_)
  with_reducible refine And.intro ?_ ?_
  with_reducible exact vpi8k k
  with_reducible refine And.intro ?_ ?_
  omega
  with_reducible refine And.intro ?_ ?_
  omega
  with_reducible refine And.intro ?_ ?_
  omega
  with_reducible refine fX3_low ?_
  simp only [eX3_become_11, kx_l, tl_s]
  with_reducible refine And.intro ?_ ?_
  omega
  with_reducible refine And.intro ?_ ?_
  omega
  with_reducible exact hQ _ (hf _)
end
end
