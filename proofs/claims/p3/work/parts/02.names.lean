def RX0 : String := "Rangecard$Range"
def TX0 : u_T := fun k => match k with
  | 0 => ("Rangecard$Range", "least", "J", true)
  | 1 => ("Rangecard$Range", "leastAtMost", "J", true)
  | 2 => ("Rangecard$Range", "greatestAtLeast", "J", true)
  | _ => ("Rangecard$Range", "greatest", "J", true)
def tyX0 : Nat → FieldType := fun k => match k with
  | 0 => .long
  | 1 => .long
  | 2 => .long
  | _ => .long
abbrev wsX00 : List Cond := u_ws RX0 TX0 4
theorem nmX0 : ∀ a, a < 4 → ∀ b, b < 4 → a ≠ b → (TX0 a).2.1 ≠ (TX0 b).2.1 := by decide +kernel
theorem tyX0_ok : ∀ k, k < 4 → parseFieldDescriptor (TX0 k).2.2.1 = some (tyX0 k) := by decide +kernel
abbrev cX0_init : ByteArray := prog_2_method_1_code
def yX0_init : MethodName := ⟨RX0, "<init>", "(JJJJ)V"⟩
abbrev cX0_ofFour : ByteArray := prog_2_method_2_code
def yX0_ofFour : MethodName := ⟨RX0, "ofFour", "(JJJJ)LRangecard$Range;"⟩
abbrev cX0_ofThree : ByteArray := prog_2_method_3_code
def yX0_ofThree : MethodName := ⟨RX0, "ofThree", "(JJJ)LRangecard$Range;"⟩
abbrev cX0_ofTwo : ByteArray := prog_2_method_4_code
def yX0_ofTwo : MethodName := ⟨RX0, "ofTwo", "(JJ)LRangecard$Range;"⟩
abbrev cX0_isInOrder : ByteArray := prog_2_method_5_code
def yX0_isInOrder : MethodName := ⟨RX0, "isInOrder", "(JJJJ)Z"⟩
abbrev cX0_endAt : ByteArray := prog_2_method_6_code
def yX0_endAt : MethodName := ⟨RX0, "endAt", "(I)J"⟩
abbrev cX0_holds : ByteArray := prog_2_method_7_code
def yX0_holds : MethodName := ⟨RX0, "holds", "(J)Z"⟩
abbrev cX0_holdsAsSmall : ByteArray := prog_2_method_8_code
def yX0_holdsAsSmall : MethodName := ⟨RX0, "holdsAsSmall", "(J)Z"⟩
abbrev cX0_holdsAs : ByteArray := prog_2_method_9_code
def yX0_holdsAs : MethodName := ⟨RX0, "holdsAs", "(JZ)Z"⟩
abbrev cX0_isSettled : ByteArray := prog_2_method_10_code
def yX0_isSettled : MethodName := ⟨RX0, "isSettled", "()Z"⟩
abbrev cX0_fitsSmall : ByteArray := prog_2_method_11_code
def yX0_fitsSmall : MethodName := ⟨RX0, "fitsSmall", "()Z"⟩
abbrev cX0_matches : ByteArray := prog_2_method_12_code
def yX0_matches : MethodName := ⟨RX0, "matches", "(LRangecard$Range;)Z"⟩
abbrev cX0_hash : ByteArray := prog_2_method_13_code
def yX0_hash : MethodName := ⟨RX0, "hash", "()J"⟩
def RX1 : String := "Rangecard"
def TX1 : u_T := fun k => match k with
  | 0 => ("Rangecard", "numbers", "[J", true)
  | 1 => ("Rangecard", "cards", "[LRangecard$Range;", true)
  | 2 => ("Rangecard", "laid", "[LRangecard$Range;", true)
  | 3 => ("Rangecard", "laidCount", "I", false)
  | 4 => ("Rangecard", "refusals", "I", false)
  | 5 => ("Rangecard", "knocks", "I", false)
  | _ => ("Rangecard", "made", "I", false)
def tyX1 : Nat → FieldType := fun k => match k with
  | 0 => .array .long
  | 1 => .array (.object "Rangecard$Range")
  | 2 => .array (.object "Rangecard$Range")
  | 3 => .int
  | 4 => .int
  | 5 => .int
  | _ => .int
abbrev wsX10 : List Cond := u_ws RX1 TX1 7
theorem nmX1 : ∀ a, a < 7 → ∀ b, b < 7 → a ≠ b → (TX1 a).2.1 ≠ (TX1 b).2.1 := by decide +kernel
theorem tyX1_ok : ∀ k, k < 7 → parseFieldDescriptor (TX1 k).2.2.1 = some (tyX1 k) := by decide +kernel
abbrev cX1_init : ByteArray := prog_1_method_1_code
def yX1_init : MethodName := ⟨RX1, "<init>", "()V"⟩
abbrev cX1_set : ByteArray := prog_1_method_2_code
def yX1_set : MethodName := ⟨RX1, "set", "(III)I"⟩
abbrev cX1_setSmall : ByteArray := prog_1_method_3_code
def yX1_setSmall : MethodName := ⟨RX1, "setSmall", "(II)I"⟩
abbrev cX1_setEnd : ByteArray := prog_1_method_4_code
def yX1_setEnd : MethodName := ⟨RX1, "setEnd", "(II)I"⟩
abbrev cX1_move : ByteArray := prog_1_method_5_code
def yX1_move : MethodName := ⟨RX1, "move", "(II)I"⟩
abbrev cX1_copy : ByteArray := prog_1_method_6_code
def yX1_copy : MethodName := ⟨RX1, "copy", "(II)I"⟩
abbrev cX1_ofNumber : ByteArray := prog_1_method_7_code
def yX1_ofNumber : MethodName := ⟨RX1, "ofNumber", "(IZ)I"⟩
abbrev cX1_numberText : ByteArray := prog_1_method_8_code
def yX1_numberText : MethodName := ⟨RX1, "numberText", "(I)Ljava/lang/String;"⟩
abbrev cX1_order : ByteArray := prog_1_method_9_code
def yX1_order : MethodName := ⟨RX1, "order", "(II)I"⟩
abbrev cX1_two : ByteArray := prog_1_method_10_code
def yX1_two : MethodName := ⟨RX1, "two", "(III)I"⟩
abbrev cX1_three : ByteArray := prog_1_method_11_code
def yX1_three : MethodName := ⟨RX1, "three", "(IIII)I"⟩
abbrev cX1_four : ByteArray := prog_1_method_12_code
def yX1_four : MethodName := ⟨RX1, "four", "(IIIII)I"⟩
abbrev cX1_twoSmall : ByteArray := prog_1_method_13_code
def yX1_twoSmall : MethodName := ⟨RX1, "twoSmall", "(III)I"⟩
abbrev cX1_threeSmall : ByteArray := prog_1_method_14_code
def yX1_threeSmall : MethodName := ⟨RX1, "threeSmall", "(IIII)I"⟩
abbrev cX1_fourSmall : ByteArray := prog_1_method_15_code
def yX1_fourSmall : MethodName := ⟨RX1, "fourSmall", "(IIIII)I"⟩
abbrev cX1_again : ByteArray := prog_1_method_16_code
def yX1_again : MethodName := ⟨RX1, "again", "(II)I"⟩
abbrev cX1_same : ByteArray := prog_1_method_17_code
def yX1_same : MethodName := ⟨RX1, "same", "(II)I"⟩
abbrev cX1_outer : ByteArray := prog_1_method_18_code
def yX1_outer : MethodName := ⟨RX1, "outer", "(II)I"⟩
abbrev cX1_inner : ByteArray := prog_1_method_19_code
def yX1_inner : MethodName := ⟨RX1, "inner", "(II)I"⟩
abbrev cX1_span : ByteArray := prog_1_method_20_code
def yX1_span : MethodName := ⟨RX1, "span", "(III)I"⟩
abbrev cX1_shift : ByteArray := prog_1_method_21_code
def yX1_shift : MethodName := ⟨RX1, "shift", "(II)I"⟩
abbrev cX1_drop : ByteArray := prog_1_method_22_code
def yX1_drop : MethodName := ⟨RX1, "drop", "(I)I"⟩
abbrev cX1_isThere : ByteArray := prog_1_method_23_code
def yX1_isThere : MethodName := ⟨RX1, "isThere", "(I)Z"⟩
abbrev cX1_isFixed : ByteArray := prog_1_method_24_code
def yX1_isFixed : MethodName := ⟨RX1, "isFixed", "(I)Z"⟩
abbrev cX1_isSmall : ByteArray := prog_1_method_25_code
def yX1_isSmall : MethodName := ⟨RX1, "isSmall", "(I)Z"⟩
abbrev cX1_end : ByteArray := prog_1_method_26_code
def yX1_end : MethodName := ⟨RX1, "end", "(IIZ)I"⟩
abbrev cX1_take : ByteArray := prog_1_method_27_code
def yX1_take : MethodName := ⟨RX1, "take", "(III)I"⟩
abbrev cX1_cardText : ByteArray := prog_1_method_28_code
def yX1_cardText : MethodName := ⟨RX1, "cardText", "(I)Ljava/lang/String;"⟩
abbrev cX1_isValid : ByteArray := prog_1_method_29_code
def yX1_isValid : MethodName := ⟨RX1, "isValid", "(II)Z"⟩
abbrev cX1_isValidSmall : ByteArray := prog_1_method_30_code
def yX1_isValidSmall : MethodName := ⟨RX1, "isValidSmall", "(II)Z"⟩
abbrev cX1_whichValid : ByteArray := prog_1_method_31_code
def yX1_whichValid : MethodName := ⟨RX1, "whichValid", "(II)I"⟩
abbrev cX1_around : ByteArray := prog_1_method_32_code
def yX1_around : MethodName := ⟨RX1, "around", "(IIZ)I"⟩
abbrev cX1_count : ByteArray := prog_1_method_33_code
def yX1_count : MethodName := ⟨RX1, "count", "(III)I"⟩
abbrev cX1_who : ByteArray := prog_1_method_34_code
def yX1_who : MethodName := ⟨RX1, "who", "(II)I"⟩
abbrev cX1_which : ByteArray := prog_1_method_35_code
def yX1_which : MethodName := ⟨RX1, "which", "(I)I"⟩
abbrev cX1_areSame : ByteArray := prog_1_method_36_code
def yX1_areSame : MethodName := ⟨RX1, "areSame", "(II)Z"⟩
abbrev cX1_isSameAs : ByteArray := prog_1_method_37_code
def yX1_isSameAs : MethodName := ⟨RX1, "isSameAs", "(II)Z"⟩
abbrev cX1_likes : ByteArray := prog_1_method_38_code
def yX1_likes : MethodName := ⟨RX1, "likes", "(I)I"⟩
abbrev cX1_lay : ByteArray := prog_1_method_39_code
def yX1_lay : MethodName := ⟨RX1, "lay", "(I)I"⟩
abbrev cX1_seek : ByteArray := prog_1_method_40_code
def yX1_seek : MethodName := ⟨RX1, "seek", "(IZ)I"⟩
abbrev cX1_howOften : ByteArray := prog_1_method_41_code
def yX1_howOften : MethodName := ⟨RX1, "howOften", "(I)I"⟩
abbrev cX1_lift : ByteArray := prog_1_method_42_code
def yX1_lift : MethodName := ⟨RX1, "lift", "(I)I"⟩
abbrev cX1_pick : ByteArray := prog_1_method_43_code
def yX1_pick : MethodName := ⟨RX1, "pick", "(II)I"⟩
abbrev cX1_turn : ByteArray := prog_1_method_44_code
def yX1_turn : MethodName := ⟨RX1, "turn", "()I"⟩
abbrev cX1_sweep : ByteArray := prog_1_method_45_code
def yX1_sweep : MethodName := ⟨RX1, "sweep", "()I"⟩
abbrev cX1_pile : ByteArray := prog_1_method_46_code
def yX1_pile : MethodName := ⟨RX1, "pile", "(II)I"⟩
abbrev cX1_house : ByteArray := prog_1_method_47_code
def yX1_house : MethodName := ⟨RX1, "house", "(I)I"⟩
abbrev cX1_knock : ByteArray := prog_1_method_48_code
def yX1_knock : MethodName := ⟨RX1, "knock", "()I"⟩
abbrev cX1_isSound : ByteArray := prog_1_method_49_code
def yX1_isSound : MethodName := ⟨RX1, "isSound", "()Z"⟩
abbrev cX1_digest : ByteArray := prog_1_method_50_code
def yX1_digest : MethodName := ⟨RX1, "digest", "()J"⟩
abbrev cX1_needNumber : ByteArray := prog_1_method_51_code
def yX1_needNumber : MethodName := ⟨RX1, "needNumber", "(I)V"⟩
abbrev cX1_needCard : ByteArray := prog_1_method_52_code
def yX1_needCard : MethodName := ⟨RX1, "needCard", "(I)V"⟩
abbrev cX1_needPlace : ByteArray := prog_1_method_53_code
def yX1_needPlace : MethodName := ⟨RX1, "needPlace", "(I)V"⟩
abbrev cX1_needChoice : ByteArray := prog_1_method_54_code
def yX1_needChoice : MethodName := ⟨RX1, "needChoice", "(II)V"⟩
abbrev cX1_rangeOf : ByteArray := prog_1_method_55_code
def yX1_rangeOf : MethodName := ⟨RX1, "rangeOf", "(I)LRangecard$Range;"⟩
abbrev cX1_refuse : ByteArray := prog_1_method_56_code
def yX1_refuse : MethodName := ⟨RX1, "refuse", "()I"⟩
abbrev cX1_give : ByteArray := prog_1_method_57_code
def yX1_give : MethodName := ⟨RX1, "give", "(ILRangecard$Range;)I"⟩
abbrev cX1_highOf : ByteArray := prog_1_method_58_code
def yX1_highOf : MethodName := ⟨RX1, "highOf", "(J)I"⟩
abbrev cX1_lowOf : ByteArray := prog_1_method_59_code
def yX1_lowOf : MethodName := ⟨RX1, "lowOf", "(J)I"⟩
abbrev cX1_halfOf : ByteArray := prog_1_method_60_code
def yX1_halfOf : MethodName := ⟨RX1, "halfOf", "(JZ)I"⟩
abbrev cX1_isSmallNumber : ByteArray := prog_1_method_61_code
def yX1_isSmallNumber : MethodName := ⟨RX1, "isSmallNumber", "(J)Z"⟩
abbrev cX1_asNumber : ByteArray := prog_1_method_62_code
def yX1_asNumber : MethodName := ⟨RX1, "asNumber", "(Z)I"⟩
abbrev cX1_farNumber : ByteArray := prog_1_method_63_code
def yX1_farNumber : MethodName := ⟨RX1, "farNumber", "(I)J"⟩
abbrev cX1_putNumber : ByteArray := prog_1_method_64_code
def yX1_putNumber : MethodName := ⟨RX1, "putNumber", "(IJ)I"⟩
abbrev cX1_appendBackwards : ByteArray := prog_1_method_65_code
def yX1_appendBackwards : MethodName := ⟨RX1, "appendBackwards", "(Ljava/lang/StringBuilder;J)V"⟩
abbrev cX1_copyOf : ByteArray := prog_1_method_66_code
def yX1_copyOf : MethodName := ⟨RX1, "copyOf", "(LRangecard$Range;)LRangecard$Range;"⟩
abbrev cX1_outerOf : ByteArray := prog_1_method_67_code
def yX1_outerOf : MethodName := ⟨RX1, "outerOf", "(LRangecard$Range;)LRangecard$Range;"⟩
abbrev cX1_smallEnds : ByteArray := prog_1_method_68_code
def yX1_smallEnds : MethodName := ⟨RX1, "smallEnds", "(LRangecard$Range;)I"⟩
abbrev cX1_validityIn : ByteArray := prog_1_method_69_code
def yX1_validityIn : MethodName := ⟨RX1, "validityIn", "(LRangecard$Range;J)I"⟩
abbrev cX1_neighboursIn : ByteArray := prog_1_method_70_code
def yX1_neighboursIn : MethodName := ⟨RX1, "neighboursIn", "(LRangecard$Range;JZ)I"⟩
abbrev cX1_holdersOf : ByteArray := prog_1_method_71_code
def yX1_holdersOf : MethodName := ⟨RX1, "holdersOf", "(JZ)I"⟩
abbrev cX1_cardsThatAre : ByteArray := prog_1_method_72_code
def yX1_cardsThatAre : MethodName := ⟨RX1, "cardsThatAre", "(I)I"⟩
abbrev cX1_isSo : ByteArray := prog_1_method_73_code
def yX1_isSo : MethodName := ⟨RX1, "isSo", "(LRangecard$Range;I)Z"⟩
abbrev cX1_cardsLike : ByteArray := prog_1_method_74_code
def yX1_cardsLike : MethodName := ⟨RX1, "cardsLike", "(LRangecard$Range;)I"⟩
abbrev cX1_cardsWithRange : ByteArray := prog_1_method_75_code
def yX1_cardsWithRange : MethodName := ⟨RX1, "cardsWithRange", "()I"⟩
abbrev cX1_firstPlaceOf : ByteArray := prog_1_method_76_code
def yX1_firstPlaceOf : MethodName := ⟨RX1, "firstPlaceOf", "(LRangecard$Range;)I"⟩
abbrev cX1_lastPlaceOf : ByteArray := prog_1_method_77_code
def yX1_lastPlaceOf : MethodName := ⟨RX1, "lastPlaceOf", "(LRangecard$Range;)I"⟩
abbrev cX1_timesLaid : ByteArray := prog_1_method_78_code
def yX1_timesLaid : MethodName := ⟨RX1, "timesLaid", "(LRangecard$Range;)I"⟩
abbrev cX1_closeGap : ByteArray := prog_1_method_79_code
def yX1_closeGap : MethodName := ⟨RX1, "closeGap", "(I)V"⟩
abbrev cX1_pileCount : ByteArray := prog_1_method_80_code
def yX1_pileCount : MethodName := ⟨RX1, "pileCount", "(JI)I"⟩
abbrev cX1_isCounted : ByteArray := prog_1_method_81_code
def yX1_isCounted : MethodName := ⟨RX1, "isCounted", "(LRangecard$Range;IJI)Z"⟩
abbrev cX1_houseCount : ByteArray := prog_1_method_82_code
def yX1_houseCount : MethodName := ⟨RX1, "houseCount", "(I)I"⟩
abbrev cX1_isSoundAlone : ByteArray := prog_1_method_83_code
def yX1_isSoundAlone : MethodName := ⟨RX1, "isSoundAlone", "(LRangecard$Range;)Z"⟩
abbrev cX1_isLikeItsCopy : ByteArray := prog_1_method_84_code
def yX1_isLikeItsCopy : MethodName := ⟨RX1, "isLikeItsCopy", "(LRangecard$Range;)Z"⟩
abbrev cX1_isOuterSound : ByteArray := prog_1_method_85_code
def yX1_isOuterSound : MethodName := ⟨RX1, "isOuterSound", "(LRangecard$Range;)Z"⟩
abbrev cX1_isEachEndHeld : ByteArray := prog_1_method_86_code
def yX1_isEachEndHeld : MethodName := ⟨RX1, "isEachEndHeld", "(LRangecard$Range;)Z"⟩
abbrev cX1_isDrawnSound : ByteArray := prog_1_method_87_code
def yX1_isDrawnSound : MethodName := ⟨RX1, "isDrawnSound", "(LRangecard$Range;)Z"⟩
abbrev cX1_hasSameValid : ByteArray := prog_1_method_88_code
def yX1_hasSameValid : MethodName := ⟨RX1, "hasSameValid", "(LRangecard$Range;LRangecard$Range;)Z"⟩
abbrev cX1_isSameToAndFro : ByteArray := prog_1_method_89_code
def yX1_isSameToAndFro : MethodName := ⟨RX1, "isSameToAndFro", "(LRangecard$Range;)Z"⟩
abbrev cX1_isEachFoundInPile : ByteArray := prog_1_method_90_code
def yX1_isEachFoundInPile : MethodName := ⟨RX1, "isEachFoundInPile", "()Z"⟩
abbrev cX1_with : ByteArray := prog_1_method_91_code
def yX1_with : MethodName := ⟨RX1, "with", "(JJ)J"⟩
abbrev cX1_withHouse : ByteArray := prog_1_method_92_code
def yX1_withHouse : MethodName := ⟨RX1, "withHouse", "(J)J"⟩
abbrev cX1_withNumber : ByteArray := prog_1_method_93_code
def yX1_withNumber : MethodName := ⟨RX1, "withNumber", "(JJ)J"⟩
abbrev cX1_withCard : ByteArray := prog_1_method_94_code
def yX1_withCard : MethodName := ⟨RX1, "withCard", "(JLRangecard$Range;)J"⟩
abbrev cX1_withEnds : ByteArray := prog_1_method_95_code
def yX1_withEnds : MethodName := ⟨RX1, "withEnds", "(JLRangecard$Range;)J"⟩
abbrev cX1_withWhichAndPile : ByteArray := prog_1_method_96_code
def yX1_withWhichAndPile : MethodName := ⟨RX1, "withWhichAndPile", "(J)J"⟩
def RX2 : String := "RangecardLaw$Out"
def TX2 : u_T := fun k => match k with
  | 0 => ("RangecardLaw$Out", "n", "J", false)
  | _ => ("RangecardLaw$Out", "s", "Ljava/lang/String;", false)
def tyX2 : Nat → FieldType := fun k => match k with
  | 0 => .long
  | _ => .object "java/lang/String"
abbrev wsX20 : List Cond := u_ws RX2 TX2 2
theorem nmX2 : ∀ a, a < 2 → ∀ b, b < 2 → a ≠ b → (TX2 a).2.1 ≠ (TX2 b).2.1 := by decide +kernel
theorem tyX2_ok : ∀ k, k < 2 → parseFieldDescriptor (TX2 k).2.2.1 = some (tyX2 k) := by decide +kernel
abbrev cX2_init : ByteArray := prog_4_method_1_code
def yX2_init : MethodName := ⟨RX2, "<init>", "()V"⟩
def RX3 : String := "RangecardModel"
def TX3 : u_T := fun k => match k with
  | 0 => ("RangecardModel", "thrown", "I", false)
  | 1 => ("RangecardModel", "numbers", "[J", true)
  | 2 => ("RangecardModel", "cards", "Ljava/util/ArrayList;", true)
  | 3 => ("RangecardModel", "pile", "Ljava/util/ArrayList;", false)
  | 4 => ("RangecardModel", "refused", "I", false)
  | 5 => ("RangecardModel", "knocked", "I", false)
  | _ => ("RangecardModel", "made", "I", false)
def tyX3 : Nat → FieldType := fun k => match k with
  | 0 => .int
  | 1 => .array .long
  | 2 => .object "java/util/ArrayList"
  | 3 => .object "java/util/ArrayList"
  | 4 => .int
  | 5 => .int
  | _ => .int
abbrev wsX30 : List Cond := u_ws RX3 TX3 7
theorem nmX3 : ∀ a, a < 7 → ∀ b, b < 7 → a ≠ b → (TX3 a).2.1 ≠ (TX3 b).2.1 := by decide +kernel
theorem tyX3_ok : ∀ k, k < 7 → parseFieldDescriptor (TX3 k).2.2.1 = some (tyX3 k) := by decide +kernel
abbrev cX3_init : ByteArray := prog_5_method_1_code
def yX3_init : MethodName := ⟨RX3, "<init>", "()V"⟩
abbrev cX3_thrown : ByteArray := prog_5_method_2_code
def yX3_thrown : MethodName := ⟨RX3, "thrown", "()I"⟩
abbrev cX3_isIn : ByteArray := prog_5_method_3_code
def yX3_isIn : MethodName := ⟨RX3, "isIn", "(III)Z"⟩
abbrev cX3_one : ByteArray := prog_5_method_4_code
def yX3_one : MethodName := ⟨RX3, "one", "(Z)I"⟩
abbrev cX3_refuse : ByteArray := prog_5_method_5_code
def yX3_refuse : MethodName := ⟨RX3, "refuse", "(ZI)Z"⟩
abbrev cX3_start : ByteArray := prog_5_method_6_code
def yX3_start : MethodName := ⟨RX3, "start", "(ZI)Z"⟩
abbrev cX3_no : ByteArray := prog_5_method_7_code
def yX3_no : MethodName := ⟨RX3, "no", "()I"⟩
abbrev cX3_isNoNumber : ByteArray := prog_5_method_8_code
def yX3_isNoNumber : MethodName := ⟨RX3, "isNoNumber", "(I)Z"⟩
abbrev cX3_isNoCard : ByteArray := prog_5_method_9_code
def yX3_isNoCard : MethodName := ⟨RX3, "isNoCard", "(I)Z"⟩
abbrev cX3_isNoEnd : ByteArray := prog_5_method_10_code
def yX3_isNoEnd : MethodName := ⟨RX3, "isNoEnd", "(I)Z"⟩
abbrev cX3_isBare : ByteArray := prog_5_method_11_code
def yX3_isBare : MethodName := ⟨RX3, "isBare", "(I)Z"⟩
abbrev cX3_high : ByteArray := prog_5_method_12_code
def yX3_high : MethodName := ⟨RX3, "high", "(J)I"⟩
abbrev cX3_low : ByteArray := prog_5_method_13_code
def yX3_low : MethodName := ⟨RX3, "low", "(J)I"⟩
abbrev cX3_set : ByteArray := prog_5_method_14_code
def yX3_set : MethodName := ⟨RX3, "set", "(III)I"⟩
abbrev cX3_setSmall : ByteArray := prog_5_method_15_code
def yX3_setSmall : MethodName := ⟨RX3, "setSmall", "(II)I"⟩
abbrev cX3_become : ByteArray := prog_5_method_16_code
def yX3_become : MethodName := ⟨RX3, "become", "(IJ)I"⟩
abbrev cX3_setEnd : ByteArray := prog_5_method_17_code
def yX3_setEnd : MethodName := ⟨RX3, "setEnd", "(II)I"⟩
abbrev cX3_move : ByteArray := prog_5_method_18_code
def yX3_move : MethodName := ⟨RX3, "move", "(II)I"⟩
abbrev cX3_copy : ByteArray := prog_5_method_19_code
def yX3_copy : MethodName := ⟨RX3, "copy", "(II)I"⟩
abbrev cX3_ofNumber : ByteArray := prog_5_method_20_code
def yX3_ofNumber : MethodName := ⟨RX3, "ofNumber", "(IZ)I"⟩
abbrev cX3_numberText : ByteArray := prog_5_method_21_code
def yX3_numberText : MethodName := ⟨RX3, "numberText", "(I)Ljava/lang/String;"⟩
abbrev cX3_order : ByteArray := prog_5_method_22_code
def yX3_order : MethodName := ⟨RX3, "order", "(II)I"⟩
abbrev cX3_areInOrder : ByteArray := prog_5_method_23_code
def yX3_areInOrder : MethodName := ⟨RX3, "areInOrder", "(JJJJ)Z"⟩
abbrev cX3_make : ByteArray := prog_5_method_24_code
def yX3_make : MethodName := ⟨RX3, "make", "(IJJJJ)I"⟩
abbrev cX3_two : ByteArray := prog_5_method_25_code
def yX3_two : MethodName := ⟨RX3, "two", "(III)I"⟩
abbrev cX3_three : ByteArray := prog_5_method_26_code
def yX3_three : MethodName := ⟨RX3, "three", "(IIII)I"⟩
abbrev cX3_four : ByteArray := prog_5_method_27_code
def yX3_four : MethodName := ⟨RX3, "four", "(IIIII)I"⟩
abbrev cX3_twoSmall : ByteArray := prog_5_method_28_code
def yX3_twoSmall : MethodName := ⟨RX3, "twoSmall", "(III)I"⟩
abbrev cX3_threeSmall : ByteArray := prog_5_method_29_code
def yX3_threeSmall : MethodName := ⟨RX3, "threeSmall", "(IIII)I"⟩
abbrev cX3_fourSmall : ByteArray := prog_5_method_30_code
def yX3_fourSmall : MethodName := ⟨RX3, "fourSmall", "(IIIII)I"⟩
abbrev cX3_isNoPair : ByteArray := prog_5_method_31_code
def yX3_isNoPair : MethodName := ⟨RX3, "isNoPair", "(II)Z"⟩
abbrev cX3_again : ByteArray := prog_5_method_32_code
def yX3_again : MethodName := ⟨RX3, "again", "(II)I"⟩
abbrev cX3_same : ByteArray := prog_5_method_33_code
def yX3_same : MethodName := ⟨RX3, "same", "([J[J)Z"⟩
abbrev cX3_same_ : ByteArray := prog_5_method_34_code
def yX3_same_ : MethodName := ⟨RX3, "same", "(II)I"⟩
abbrev cX3_fixed : ByteArray := prog_5_method_35_code
def yX3_fixed : MethodName := ⟨RX3, "fixed", "([J)Z"⟩
abbrev cX3_small : ByteArray := prog_5_method_36_code
def yX3_small : MethodName := ⟨RX3, "small", "([J)Z"⟩
abbrev cX3_outer : ByteArray := prog_5_method_37_code
def yX3_outer : MethodName := ⟨RX3, "outer", "(II)I"⟩
abbrev cX3_inner : ByteArray := prog_5_method_38_code
def yX3_inner : MethodName := ⟨RX3, "inner", "(II)I"⟩
abbrev cX3_span : ByteArray := prog_5_method_39_code
def yX3_span : MethodName := ⟨RX3, "span", "(III)I"⟩
abbrev cX3_isNone : ByteArray := prog_5_method_40_code
def yX3_isNone : MethodName := ⟨RX3, "isNone", "(I)Z"⟩
abbrev cX3_shift : ByteArray := prog_5_method_41_code
def yX3_shift : MethodName := ⟨RX3, "shift", "(II)I"⟩
abbrev cX3_drop : ByteArray := prog_5_method_42_code
def yX3_drop : MethodName := ⟨RX3, "drop", "(I)I"⟩
abbrev cX3_isThere : ByteArray := prog_5_method_43_code
def yX3_isThere : MethodName := ⟨RX3, "isThere", "(I)Z"⟩
abbrev cX3_isFixed : ByteArray := prog_5_method_44_code
def yX3_isFixed : MethodName := ⟨RX3, "isFixed", "(I)Z"⟩
abbrev cX3_isSmall : ByteArray := prog_5_method_45_code
def yX3_isSmall : MethodName := ⟨RX3, "isSmall", "(I)Z"⟩
abbrev cX3_isNoEnd_ : ByteArray := prog_5_method_46_code
def yX3_isNoEnd_ : MethodName := ⟨RX3, "isNoEnd", "(II)Z"⟩
abbrev cX3_end : ByteArray := prog_5_method_47_code
def yX3_end : MethodName := ⟨RX3, "end", "(IIZ)I"⟩
abbrev cX3_take : ByteArray := prog_5_method_48_code
def yX3_take : MethodName := ⟨RX3, "take", "(III)I"⟩
abbrev cX3_cardText : ByteArray := prog_5_method_49_code
def yX3_cardText : MethodName := ⟨RX3, "cardText", "(I)Ljava/lang/String;"⟩
abbrev cX3_valid : ByteArray := prog_5_method_50_code
def yX3_valid : MethodName := ⟨RX3, "valid", "([JJZ)Z"⟩
abbrev cX3_isNoAsked : ByteArray := prog_5_method_51_code
def yX3_isNoAsked : MethodName := ⟨RX3, "isNoAsked", "(II)Z"⟩
abbrev cX3_isValid : ByteArray := prog_5_method_52_code
def yX3_isValid : MethodName := ⟨RX3, "isValid", "(II)Z"⟩
abbrev cX3_isValidSmall : ByteArray := prog_5_method_53_code
def yX3_isValidSmall : MethodName := ⟨RX3, "isValidSmall", "(II)Z"⟩
abbrev cX3_whichNow : ByteArray := prog_5_method_54_code
def yX3_whichNow : MethodName := ⟨RX3, "whichNow", "([JI)I"⟩
abbrev cX3_whichValid : ByteArray := prog_5_method_55_code
def yX3_whichValid : MethodName := ⟨RX3, "whichValid", "(II)I"⟩
abbrev cX3_aroundNow : ByteArray := prog_5_method_56_code
def yX3_aroundNow : MethodName := ⟨RX3, "aroundNow", "([JIZ)I"⟩
abbrev cX3_around : ByteArray := prog_5_method_57_code
def yX3_around : MethodName := ⟨RX3, "around", "(IIZ)I"⟩
abbrev cX3_count : ByteArray := prog_5_method_58_code
def yX3_count : MethodName := ⟨RX3, "count", "(III)I"⟩
abbrev cX3_whoNow : ByteArray := prog_5_method_59_code
def yX3_whoNow : MethodName := ⟨RX3, "whoNow", "(II)I"⟩
abbrev cX3_who : ByteArray := prog_5_method_60_code
def yX3_who : MethodName := ⟨RX3, "who", "(II)I"⟩
abbrev cX3_whichNow_ : ByteArray := prog_5_method_61_code
def yX3_whichNow_ : MethodName := ⟨RX3, "whichNow", "(I)I"⟩
abbrev cX3_which : ByteArray := prog_5_method_62_code
def yX3_which : MethodName := ⟨RX3, "which", "(I)I"⟩
abbrev cX3_areSame : ByteArray := prog_5_method_63_code
def yX3_areSame : MethodName := ⟨RX3, "areSame", "(II)Z"⟩
abbrev cX3_isSameAs : ByteArray := prog_5_method_64_code
def yX3_isSameAs : MethodName := ⟨RX3, "isSameAs", "(II)Z"⟩
abbrev cX3_likesNow : ByteArray := prog_5_method_65_code
def yX3_likesNow : MethodName := ⟨RX3, "likesNow", "(I)I"⟩
abbrev cX3_likes : ByteArray := prog_5_method_66_code
def yX3_likes : MethodName := ⟨RX3, "likes", "(I)I"⟩
abbrev cX3_lay : ByteArray := prog_5_method_67_code
def yX3_lay : MethodName := ⟨RX3, "lay", "(I)I"⟩
abbrev cX3_seekNow : ByteArray := prog_5_method_68_code
def yX3_seekNow : MethodName := ⟨RX3, "seekNow", "(IZ)I"⟩
abbrev cX3_seek : ByteArray := prog_5_method_69_code
def yX3_seek : MethodName := ⟨RX3, "seek", "(IZ)I"⟩
abbrev cX3_oftenNow : ByteArray := prog_5_method_70_code
def yX3_oftenNow : MethodName := ⟨RX3, "oftenNow", "(I)I"⟩
abbrev cX3_howOften : ByteArray := prog_5_method_71_code
def yX3_howOften : MethodName := ⟨RX3, "howOften", "(I)I"⟩
abbrev cX3_lift : ByteArray := prog_5_method_72_code
def yX3_lift : MethodName := ⟨RX3, "lift", "(I)I"⟩
abbrev cX3_pick : ByteArray := prog_5_method_73_code
def yX3_pick : MethodName := ⟨RX3, "pick", "(II)I"⟩
abbrev cX3_turn : ByteArray := prog_5_method_74_code
def yX3_turn : MethodName := ⟨RX3, "turn", "()I"⟩
abbrev cX3_sweep : ByteArray := prog_5_method_75_code
def yX3_sweep : MethodName := ⟨RX3, "sweep", "()I"⟩
abbrev cX3_isAhead : ByteArray := prog_5_method_76_code
def yX3_isAhead : MethodName := ⟨RX3, "isAhead", "(I)Z"⟩
abbrev cX3_pileNow : ByteArray := prog_5_method_77_code
def yX3_pileNow : MethodName := ⟨RX3, "pileNow", "(II)I"⟩
abbrev cX3_pile : ByteArray := prog_5_method_78_code
def yX3_pile : MethodName := ⟨RX3, "pile", "(II)I"⟩
abbrev cX3_houseNow : ByteArray := prog_5_method_79_code
def yX3_houseNow : MethodName := ⟨RX3, "houseNow", "(I)I"⟩
abbrev cX3_house : ByteArray := prog_5_method_80_code
def yX3_house : MethodName := ⟨RX3, "house", "(I)I"⟩
abbrev cX3_knock : ByteArray := prog_5_method_81_code
def yX3_knock : MethodName := ⟨RX3, "knock", "()I"⟩
abbrev cX3_isSound : ByteArray := prog_5_method_82_code
def yX3_isSound : MethodName := ⟨RX3, "isSound", "()Z"⟩
abbrev cX3_add : ByteArray := prog_5_method_83_code
def yX3_add : MethodName := ⟨RX3, "add", "(JJ)J"⟩
abbrev cX3_digest : ByteArray := prog_5_method_84_code
def yX3_digest : MethodName := ⟨RX3, "digest", "()J"⟩
def RJx145de : String := "java/io/Serializable"
def TJx145de : u_T := fun k => match k with
  | _ => ("", "", "", false)
def tyJx145de : Nat → FieldType := fun k => match k with
  | _ => .int
abbrev wsJx145de0 : List Cond := u_ws RJx145de TJx145de 0
theorem nmJx145de : ∀ a, a < 0 → ∀ b, b < 0 → a ≠ b → (TJx145de a).2.1 ≠ (TJx145de b).2.1 := by decide +kernel
theorem tyJx145de_ok : ∀ k, k < 0 → parseFieldDescriptor (TJx145de k).2.2.1 = some (tyJx145de k) := by decide +kernel
def RJ5 : String := "java/lang/AbstractStringBuilder"
def TJ5 : u_T := fun k => match k with
  | _ => ("", "", "", false)
def tyJ5 : Nat → FieldType := fun k => match k with
  | _ => .int
abbrev wsJ50 : List Cond := u_ws RJ5 TJ5 0
theorem nmJ5 : ∀ a, a < 0 → ∀ b, b < 0 → a ≠ b → (TJ5 a).2.1 ≠ (TJ5 b).2.1 := by decide +kernel
theorem tyJ5_ok : ∀ k, k < 0 → parseFieldDescriptor (TJ5 k).2.2.1 = some (tyJ5 k) := by decide +kernel
abbrev cJ5_init_d00df : ByteArray := prog_7_method_2_code
def yJ5_init_d00df : MethodName := ⟨RJ5, "<init>", "(I)V"⟩
abbrev cJ5_length_8abf5 : ByteArray := prog_7_method_6_code
def yJ5_length_8abf5 : MethodName := ⟨RJ5, "length", "()I"⟩
abbrev cJ5_ensureCapacityInternal_d00df : ByteArray := prog_7_method_9_code
def yJ5_ensureCapacityInternal_d00df : MethodName := ⟨RJ5, "ensureCapacityInternal", "(I)V"⟩
abbrev cJ5_newCapacity_0f7a4 : ByteArray := prog_7_method_10_code
def yJ5_newCapacity_0f7a4 : MethodName := ⟨RJ5, "newCapacity", "(I)I"⟩
abbrev cJ5_inflate_da8c8 : ByteArray := prog_7_method_11_code
def yJ5_inflate_da8c8 : MethodName := ⟨RJ5, "inflate", "()V"⟩
abbrev cJ5_append_cf1ce : ByteArray := prog_7_method_22_code
def yJ5_append_cf1ce : MethodName := ⟨RJ5, "append", "(Ljava/lang/String;)Ljava/lang/AbstractStringBuilder;"⟩
abbrev cJ5_appendNull_278bc : ByteArray := prog_7_method_26_code
def yJ5_appendNull_278bc : MethodName := ⟨RJ5, "appendNull", "()Ljava/lang/AbstractStringBuilder;"⟩
abbrev cJ5_append_3fe6f : ByteArray := prog_7_method_31_code
def yJ5_append_3fe6f : MethodName := ⟨RJ5, "append", "(C)Ljava/lang/AbstractStringBuilder;"⟩
abbrev cJ5_append_c97b9 : ByteArray := prog_7_method_32_code
def yJ5_append_c97b9 : MethodName := ⟨RJ5, "append", "(I)Ljava/lang/AbstractStringBuilder;"⟩
abbrev cJ5_append_66267 : ByteArray := prog_7_method_33_code
def yJ5_append_66267 : MethodName := ⟨RJ5, "append", "(J)Ljava/lang/AbstractStringBuilder;"⟩
abbrev cJ5_reverse_278bc : ByteArray := prog_7_method_60_code
def yJ5_reverse_278bc : MethodName := ⟨RJ5, "reverse", "()Ljava/lang/AbstractStringBuilder;"⟩
abbrev cJ5_getValue_6d5f1 : ByteArray := prog_7_method_64_code
def yJ5_getValue_6d5f1 : MethodName := ⟨RJ5, "getValue", "()[B"⟩
abbrev cJ5_isLatin1_aae02 : ByteArray := prog_7_method_68_code
def yJ5_isLatin1_aae02 : MethodName := ⟨RJ5, "isLatin1", "()Z"⟩
abbrev cJ5_inflateIfNeededFor_a7421 : ByteArray := prog_7_method_71_code
def yJ5_inflateIfNeededFor_a7421 : MethodName := ⟨RJ5, "inflateIfNeededFor", "(Ljava/lang/String;)V"⟩
abbrev cJ5_putStringAt_47b60 : ByteArray := prog_7_method_73_code
def yJ5_putStringAt_47b60 : MethodName := ⟨RJ5, "putStringAt", "(ILjava/lang/String;)V"⟩
def RJx2cfe8 : String := "java/lang/Appendable"
def TJx2cfe8 : u_T := fun k => match k with
  | _ => ("", "", "", false)
def tyJx2cfe8 : Nat → FieldType := fun k => match k with
  | _ => .int
abbrev wsJx2cfe80 : List Cond := u_ws RJx2cfe8 TJx2cfe8 0
theorem nmJx2cfe8 : ∀ a, a < 0 → ∀ b, b < 0 → a ≠ b → (TJx2cfe8 a).2.1 ≠ (TJx2cfe8 b).2.1 := by decide +kernel
theorem tyJx2cfe8_ok : ∀ k, k < 0 → parseFieldDescriptor (TJx2cfe8 k).2.2.1 = some (tyJx2cfe8 k) := by decide +kernel
def RJx9f9b0 : String := "java/lang/CharSequence"
def TJx9f9b0 : u_T := fun k => match k with
  | _ => ("", "", "", false)
def tyJx9f9b0 : Nat → FieldType := fun k => match k with
  | _ => .int
abbrev wsJx9f9b00 : List Cond := u_ws RJx9f9b0 TJx9f9b0 0
theorem nmJx9f9b0 : ∀ a, a < 0 → ∀ b, b < 0 → a ≠ b → (TJx9f9b0 a).2.1 ≠ (TJx9f9b0 b).2.1 := by decide +kernel
theorem tyJx9f9b0_ok : ∀ k, k < 0 → parseFieldDescriptor (TJx9f9b0 k).2.2.1 = some (tyJx9f9b0 k) := by decide +kernel
def RJ11 : String := "java/lang/Character"
def TJ11 : u_T := fun k => match k with
  | _ => ("", "", "", false)
def tyJ11 : Nat → FieldType := fun k => match k with
  | _ => .int
abbrev wsJ110 : List Cond := u_ws RJ11 TJ11 0
theorem nmJ11 : ∀ a, a < 0 → ∀ b, b < 0 → a ≠ b → (TJ11 a).2.1 ≠ (TJ11 b).2.1 := by decide +kernel
theorem tyJ11_ok : ∀ k, k < 0 → parseFieldDescriptor (TJ11 k).2.2.1 = some (tyJ11 k) := by decide +kernel
abbrev cJ11_isHighSurrogate_fc78d : ByteArray := prog_10_method_14_code
def yJ11_isHighSurrogate_fc78d : MethodName := ⟨RJ11, "isHighSurrogate", "(C)Z"⟩
abbrev cJ11_isLowSurrogate_fc78d : ByteArray := prog_10_method_15_code
def yJ11_isLowSurrogate_fc78d : MethodName := ⟨RJ11, "isLowSurrogate", "(C)Z"⟩
abbrev cJ11_isSurrogate_fc78d : ByteArray := prog_10_method_16_code
def yJ11_isSurrogate_fc78d : MethodName := ⟨RJ11, "isSurrogate", "(C)Z"⟩
def RJx8e188 : String := "java/lang/Cloneable"
def TJx8e188 : u_T := fun k => match k with
  | _ => ("", "", "", false)
def tyJx8e188 : Nat → FieldType := fun k => match k with
  | _ => .int
abbrev wsJx8e1880 : List Cond := u_ws RJx8e188 TJx8e188 0
theorem nmJx8e188 : ∀ a, a < 0 → ∀ b, b < 0 → a ≠ b → (TJx8e188 a).2.1 ≠ (TJx8e188 b).2.1 := by decide +kernel
theorem tyJx8e188_ok : ∀ k, k < 0 → parseFieldDescriptor (TJx8e188 k).2.2.1 = some (tyJx8e188 k) := by decide +kernel
def RJxb160c : String := "java/lang/Comparable"
def TJxb160c : u_T := fun k => match k with
  | _ => ("", "", "", false)
def tyJxb160c : Nat → FieldType := fun k => match k with
  | _ => .int
abbrev wsJxb160c0 : List Cond := u_ws RJxb160c TJxb160c 0
theorem nmJxb160c : ∀ a, a < 0 → ∀ b, b < 0 → a ≠ b → (TJxb160c a).2.1 ≠ (TJxb160c b).2.1 := by decide +kernel
theorem tyJxb160c_ok : ∀ k, k < 0 → parseFieldDescriptor (TJxb160c k).2.2.1 = some (tyJxb160c k) := by decide +kernel
def RJ6 : String := "java/lang/Integer"
def TJ6 : u_T := fun k => match k with
  | _ => ("", "", "", false)
def tyJ6 : Nat → FieldType := fun k => match k with
  | _ => .int
abbrev wsJ60 : List Cond := u_ws RJ6 TJ6 0
theorem nmJ6 : ∀ a, a < 0 → ∀ b, b < 0 → a ≠ b → (TJ6 a).2.1 ≠ (TJ6 b).2.1 := by decide +kernel
theorem tyJ6_ok : ∀ k, k < 0 → parseFieldDescriptor (TJ6 k).2.2.1 = some (tyJ6 k) := by decide +kernel
abbrev cJ6_getChars_ba4f3 : ByteArray := prog_17_method_12_code
def yJ6_getChars_ba4f3 : MethodName := ⟨RJ6, "getChars", "(II[B)I"⟩
abbrev cJ6_stringSize_0f7a4 : ByteArray := prog_17_method_13_code
def yJ6_stringSize_0f7a4 : MethodName := ⟨RJ6, "stringSize", "(I)I"⟩
def RJxab1ab : String := "java/lang/Iterable"
def TJxab1ab : u_T := fun k => match k with
  | _ => ("", "", "", false)
def tyJxab1ab : Nat → FieldType := fun k => match k with
  | _ => .int
abbrev wsJxab1ab0 : List Cond := u_ws RJxab1ab TJxab1ab 0
theorem nmJxab1ab : ∀ a, a < 0 → ∀ b, b < 0 → a ≠ b → (TJxab1ab a).2.1 ≠ (TJxab1ab b).2.1 := by decide +kernel
theorem tyJxab1ab_ok : ∀ k, k < 0 → parseFieldDescriptor (TJxab1ab k).2.2.1 = some (tyJxab1ab k) := by decide +kernel
def RJ13 : String := "java/lang/Long"
def TJ13 : u_T := fun k => match k with
  | _ => ("", "", "", false)
def tyJ13 : Nat → FieldType := fun k => match k with
  | _ => .int
abbrev wsJ130 : List Cond := u_ws RJ13 TJ13 0
theorem nmJ13 : ∀ a, a < 0 → ∀ b, b < 0 → a ≠ b → (TJ13 a).2.1 ≠ (TJ13 b).2.1 := by decide +kernel
theorem tyJ13_ok : ∀ k, k < 0 → parseFieldDescriptor (TJ13 k).2.2.1 = some (tyJ13 k) := by decide +kernel
abbrev cJ13_getChars_11360 : ByteArray := prog_19_method_14_code
def yJ13_getChars_11360 : MethodName := ⟨RJ13, "getChars", "(JI[B)I"⟩
abbrev cJ13_stringSize_95d88 : ByteArray := prog_19_method_15_code
def yJ13_stringSize_95d88 : MethodName := ⟨RJ13, "stringSize", "(J)I"⟩
def RJ9 : String := "java/lang/Math"
def TJ9 : u_T := fun k => match k with
  | _ => ("", "", "", false)
def tyJ9 : Nat → FieldType := fun k => match k with
  | _ => .int
abbrev wsJ90 : List Cond := u_ws RJ9 TJ9 0
theorem nmJ9 : ∀ a, a < 0 → ∀ b, b < 0 → a ≠ b → (TJ9 a).2.1 ≠ (TJ9 b).2.1 := by decide +kernel
theorem tyJ9_ok : ∀ k, k < 0 → parseFieldDescriptor (TJ9 k).2.2.1 = some (tyJ9 k) := by decide +kernel
abbrev cJ9_abs_0f7a4 : ByteArray := prog_20_method_59_code
def yJ9_abs_0f7a4 : MethodName := ⟨RJ9, "abs", "(I)I"⟩
abbrev cJ9_max_7cf53 : ByteArray := prog_20_method_65_code
def yJ9_max_7cf53 : MethodName := ⟨RJ9, "max", "(II)I"⟩
abbrev cJ9_min_7cf53 : ByteArray := prog_20_method_69_code
def yJ9_min_7cf53 : MethodName := ⟨RJ9, "min", "(II)I"⟩
def RJxd2413 : String := "java/lang/Number"
def TJxd2413 : u_T := fun k => match k with
  | _ => ("", "", "", false)
def tyJxd2413 : Nat → FieldType := fun k => match k with
  | _ => .int
abbrev wsJxd24130 : List Cond := u_ws RJxd2413 TJxd2413 0
theorem nmJxd2413 : ∀ a, a < 0 → ∀ b, b < 0 → a ≠ b → (TJxd2413 a).2.1 ≠ (TJxd2413 b).2.1 := by decide +kernel
theorem tyJxd2413_ok : ∀ k, k < 0 → parseFieldDescriptor (TJxd2413 k).2.2.1 = some (tyJxd2413 k) := by decide +kernel
def RJ0 : String := "java/lang/String"
def TJ0 : u_T := fun k => match k with
  | 0 => ("java/lang/String", "value", "[B", true)
  | 1 => ("java/lang/String", "coder", "B", true)
  | 2 => ("java/lang/String", "hash", "I", false)
  | _ => ("java/lang/String", "hashIsZero", "Z", false)
def tyJ0 : Nat → FieldType := fun k => match k with
  | 0 => .array .byte
  | 1 => .byte
  | 2 => .int
  | _ => .boolean
abbrev wsJ00 : List Cond := u_ws RJ0 TJ0 4
theorem nmJ0 : ∀ a, a < 4 → ∀ b, b < 4 → a ≠ b → (TJ0 a).2.1 ≠ (TJ0 b).2.1 := by decide +kernel
theorem tyJ0_ok : ∀ k, k < 4 → parseFieldDescriptor (TJ0 k).2.2.1 = some (tyJ0 k) := by decide +kernel
abbrev cJ0_init_81219 : ByteArray := prog_23_method_53_code
def yJ0_init_81219 : MethodName := ⟨RJ0, "<init>", "(Ljava/lang/StringBuilder;)V"⟩
abbrev cJ0_length_8abf5 : ByteArray := prog_23_method_54_code
def yJ0_length_8abf5 : MethodName := ⟨RJ0, "length", "()I"⟩
abbrev cJ0_getBytes_840e7 : ByteArray := prog_23_method_147_code
def yJ0_getBytes_840e7 : MethodName := ⟨RJ0, "getBytes", "([BIB)V"⟩
abbrev cJ0_init_db425 : ByteArray := prog_23_method_150_code
def yJ0_init_db425 : MethodName := ⟨RJ0, "<init>", "(Ljava/lang/AbstractStringBuilder;Ljava/lang/Void;)V"⟩
abbrev cJ0_coder_7d493 : ByteArray := prog_23_method_152_code
def yJ0_coder_7d493 : MethodName := ⟨RJ0, "coder", "()B"⟩
abbrev cJ0_checkIndex_df160 : ByteArray := prog_23_method_155_code
def yJ0_checkIndex_df160 : MethodName := ⟨RJ0, "checkIndex", "(II)V"⟩
abbrev cJ0_checkOffset_df160 : ByteArray := prog_23_method_156_code
def yJ0_checkOffset_df160 : MethodName := ⟨RJ0, "checkOffset", "(II)V"⟩
abbrev cJ0_checkBoundsOffCount_cabcc : ByteArray := prog_23_method_157_code
def yJ0_checkBoundsOffCount_cabcc : MethodName := ⟨RJ0, "checkBoundsOffCount", "(III)I"⟩
abbrev cJ0_checkBoundsBeginEnd_23922 : ByteArray := prog_23_method_158_code
def yJ0_checkBoundsBeginEnd_23922 : MethodName := ⟨RJ0, "checkBoundsBeginEnd", "(III)V"⟩
def RJ4 : String := "java/lang/StringBuilder"
def TJ4 : u_T := fun k => match k with
  | 0 => ("java/lang/AbstractStringBuilder", "value", "[B", false)
  | 1 => ("java/lang/AbstractStringBuilder", "coder", "B", false)
  | 2 => ("java/lang/AbstractStringBuilder", "maybeLatin1", "Z", false)
  | _ => ("java/lang/AbstractStringBuilder", "count", "I", false)
def tyJ4 : Nat → FieldType := fun k => match k with
  | 0 => .array .byte
  | 1 => .byte
  | 2 => .boolean
  | _ => .int
abbrev wsJ40 : List Cond := u_ws RJ4 TJ4 4
theorem nmJ4 : ∀ a, a < 4 → ∀ b, b < 4 → a ≠ b → (TJ4 a).2.1 ≠ (TJ4 b).2.1 := by decide +kernel
theorem tyJ4_ok : ∀ k, k < 4 → parseFieldDescriptor (TJ4 k).2.2.1 = some (tyJ4 k) := by decide +kernel
abbrev cJ4_init_da8c8 : ByteArray := prog_24_method_1_code
def yJ4_init_da8c8 : MethodName := ⟨RJ4, "<init>", "()V"⟩
abbrev cJ4_append_15ec4 : ByteArray := prog_24_method_7_code
def yJ4_append_15ec4 : MethodName := ⟨RJ4, "append", "(Ljava/lang/String;)Ljava/lang/StringBuilder;"⟩
abbrev cJ4_append_cf468 : ByteArray := prog_24_method_14_code
def yJ4_append_cf468 : MethodName := ⟨RJ4, "append", "(C)Ljava/lang/StringBuilder;"⟩
abbrev cJ4_append_bf812 : ByteArray := prog_24_method_15_code
def yJ4_append_bf812 : MethodName := ⟨RJ4, "append", "(I)Ljava/lang/StringBuilder;"⟩
abbrev cJ4_append_f7089 : ByteArray := prog_24_method_16_code
def yJ4_append_f7089 : MethodName := ⟨RJ4, "append", "(J)Ljava/lang/StringBuilder;"⟩
abbrev cJ4_reverse_43fcb : ByteArray := prog_24_method_39_code
def yJ4_reverse_43fcb : MethodName := ⟨RJ4, "reverse", "()Ljava/lang/StringBuilder;"⟩
abbrev cJ4_toString_0e30d : ByteArray := prog_24_method_42_code
def yJ4_toString_0e30d : MethodName := ⟨RJ4, "toString", "()Ljava/lang/String;"⟩
abbrev cJ4_length_8abf5 : ByteArray := prog_24_method_93_code
def yJ4_length_8abf5 : MethodName := ⟨RJ4, "length", "()I"⟩
def RJ1 : String := "java/lang/StringLatin1"
def TJ1 : u_T := fun k => match k with
  | _ => ("", "", "", false)
def tyJ1 : Nat → FieldType := fun k => match k with
  | _ => .int
abbrev wsJ10 : List Cond := u_ws RJ1 TJ1 0
theorem nmJ1 : ∀ a, a < 0 → ∀ b, b < 0 → a ≠ b → (TJ1 a).2.1 ≠ (TJ1 b).2.1 := by decide +kernel
theorem tyJ1_ok : ∀ k, k < 0 → parseFieldDescriptor (TJ1 k).2.2.1 = some (tyJ1 k) := by decide +kernel
abbrev cJ1_canEncode_fc78d : ByteArray := prog_25_method_3_code
def yJ1_canEncode_fc78d : MethodName := ⟨RJ1, "canEncode", "(C)Z"⟩
abbrev cJ1_inflate_0e8fd : ByteArray := prog_25_method_50_code
def yJ1_inflate_0e8fd : MethodName := ⟨RJ1, "inflate", "([BI[BII)V"⟩
def RJ2 : String := "java/lang/StringUTF16"
def TJ2 : u_T := fun k => match k with
  | _ => ("", "", "", false)
def tyJ2 : Nat → FieldType := fun k => match k with
  | _ => .int
abbrev wsJ20 : List Cond := u_ws RJ2 TJ2 0
theorem nmJ2 : ∀ a, a < 0 → ∀ b, b < 0 → a ≠ b → (TJ2 a).2.1 ≠ (TJ2 b).2.1 := by decide +kernel
theorem tyJ2_ok : ∀ k, k < 0 → parseFieldDescriptor (TJ2 k).2.2.1 = some (tyJ2 k) := by decide +kernel
abbrev cJ2_newBytesFor_77867 : ByteArray := prog_26_method_2_code
def yJ2_newBytesFor_77867 : MethodName := ⟨RJ2, "newBytesFor", "(I)[B"⟩
abbrev cJ2_newBytesLength_0f7a4 : ByteArray := prog_26_method_3_code
def yJ2_newBytesLength_0f7a4 : MethodName := ⟨RJ2, "newBytesLength", "(I)I"⟩
abbrev cJ2_putChar_b72d1 : ByteArray := prog_26_method_4_code
def yJ2_putChar_b72d1 : MethodName := ⟨RJ2, "putChar", "([BII)V"⟩
abbrev cJ2_getChar_3b067 : ByteArray := prog_26_method_5_code
def yJ2_getChar_3b067 : MethodName := ⟨RJ2, "getChar", "([BI)C"⟩
abbrev cJ2_length_9d52b : ByteArray := prog_26_method_6_code
def yJ2_length_9d52b : MethodName := ⟨RJ2, "length", "([B)I"⟩
abbrev cJ2_coderFromArrayLen_85cad : ByteArray := prog_26_method_15_code
def yJ2_coderFromArrayLen_85cad : MethodName := ⟨RJ2, "coderFromArrayLen", "([BI)B"⟩
abbrev cJ2_compress_39247 : ByteArray := prog_26_method_17_code
def yJ2_compress_39247 : MethodName := ⟨RJ2, "compress", "([BII)[B"⟩
abbrev cJ2_compress_5af95 : ByteArray := prog_26_method_22_code
def yJ2_compress_5af95 : MethodName := ⟨RJ2, "compress", "([BI[BII)I"⟩
abbrev cJ2_putCharSB_b72d1 : ByteArray := prog_26_method_71_code
def yJ2_putCharSB_b72d1 : MethodName := ⟨RJ2, "putCharSB", "([BII)V"⟩
abbrev cJ2_getChars_46870 : ByteArray := prog_26_method_77_code
def yJ2_getChars_46870 : MethodName := ⟨RJ2, "getChars", "(III[B)I"⟩
abbrev cJ2_getChars_1ba55 : ByteArray := prog_26_method_78_code
def yJ2_getChars_1ba55 : MethodName := ⟨RJ2, "getChars", "(JII[B)I"⟩
abbrev cJ2_putCharsAt_cd4e5 : ByteArray := prog_26_method_81_code
def yJ2_putCharsAt_cd4e5 : MethodName := ⟨RJ2, "putCharsAt", "([BICCCC)I"⟩
abbrev cJ2_reverse_db04f : ByteArray := prog_26_method_84_code
def yJ2_reverse_db04f : MethodName := ⟨RJ2, "reverse", "([BI)V"⟩
abbrev cJ2_reverseAllValidSurrogatePairs_db04f : ByteArray := prog_26_method_85_code
def yJ2_reverseAllValidSurrogatePairs_db04f : MethodName := ⟨RJ2, "reverseAllValidSurrogatePairs", "([BI)V"⟩
abbrev cJ2_inflate_0e8fd : ByteArray := prog_26_method_86_code
def yJ2_inflate_0e8fd : MethodName := ⟨RJ2, "inflate", "([BI[BII)V"⟩
abbrev cJ2_getChars_ba4f3 : ByteArray := prog_26_method_89_code
def yJ2_getChars_ba4f3 : MethodName := ⟨RJ2, "getChars", "(II[B)I"⟩
abbrev cJ2_getChars_11360 : ByteArray := prog_26_method_90_code
def yJ2_getChars_11360 : MethodName := ⟨RJ2, "getChars", "(JI[B)I"⟩
abbrev cJ2_checkIndex_2214a : ByteArray := prog_26_method_91_code
def yJ2_checkIndex_2214a : MethodName := ⟨RJ2, "checkIndex", "(I[B)V"⟩
abbrev cJ2_checkOffset_2214a : ByteArray := prog_26_method_92_code
def yJ2_checkOffset_2214a : MethodName := ⟨RJ2, "checkOffset", "(I[B)V"⟩
abbrev cJ2_checkBoundsBeginEnd_d044e : ByteArray := prog_26_method_93_code
def yJ2_checkBoundsBeginEnd_d044e : MethodName := ⟨RJ2, "checkBoundsBeginEnd", "(II[B)V"⟩
abbrev cJ2_checkBoundsOffCount_d044e : ByteArray := prog_26_method_94_code
def yJ2_checkBoundsOffCount_d044e : MethodName := ⟨RJ2, "checkBoundsOffCount", "(II[B)V"⟩
def RJ10 : String := "java/lang/System"
def TJ10 : u_T := fun k => match k with
  | _ => ("", "", "", false)
def tyJ10 : Nat → FieldType := fun k => match k with
  | _ => .int
abbrev wsJ100 : List Cond := u_ws RJ10 TJ10 0
theorem nmJ10 : ∀ a, a < 0 → ∀ b, b < 0 → a ≠ b → (TJ10 a).2.1 ≠ (TJ10 b).2.1 := by decide +kernel
theorem tyJ10_ok : ∀ k, k < 0 → parseFieldDescriptor (TJ10 k).2.2.1 = some (tyJ10 k) := by decide +kernel
def RJxfd54e : String := "java/lang/constant/Constable"
def TJxfd54e : u_T := fun k => match k with
  | _ => ("", "", "", false)
def tyJxfd54e : Nat → FieldType := fun k => match k with
  | _ => .int
abbrev wsJxfd54e0 : List Cond := u_ws RJxfd54e TJxfd54e 0
theorem nmJxfd54e : ∀ a, a < 0 → ∀ b, b < 0 → a ≠ b → (TJxfd54e a).2.1 ≠ (TJxfd54e b).2.1 := by decide +kernel
theorem tyJxfd54e_ok : ∀ k, k < 0 → parseFieldDescriptor (TJxfd54e k).2.2.1 = some (tyJxfd54e k) := by decide +kernel
def RJx3cf43 : String := "java/lang/constant/ConstantDesc"
def TJx3cf43 : u_T := fun k => match k with
  | _ => ("", "", "", false)
def tyJx3cf43 : Nat → FieldType := fun k => match k with
  | _ => .int
abbrev wsJx3cf430 : List Cond := u_ws RJx3cf43 TJx3cf43 0
theorem nmJx3cf43 : ∀ a, a < 0 → ∀ b, b < 0 → a ≠ b → (TJx3cf43 a).2.1 ≠ (TJx3cf43 b).2.1 := by decide +kernel
theorem tyJx3cf43_ok : ∀ k, k < 0 → parseFieldDescriptor (TJx3cf43 k).2.2.1 = some (tyJx3cf43 k) := by decide +kernel
def RJxa1e45 : String := "java/util/AbstractCollection"
def TJxa1e45 : u_T := fun k => match k with
  | _ => ("", "", "", false)
def tyJxa1e45 : Nat → FieldType := fun k => match k with
  | _ => .int
abbrev wsJxa1e450 : List Cond := u_ws RJxa1e45 TJxa1e45 0
theorem nmJxa1e45 : ∀ a, a < 0 → ∀ b, b < 0 → a ≠ b → (TJxa1e45 a).2.1 ≠ (TJxa1e45 b).2.1 := by decide +kernel
theorem tyJxa1e45_ok : ∀ k, k < 0 → parseFieldDescriptor (TJxa1e45 k).2.2.1 = some (tyJxa1e45 k) := by decide +kernel
abbrev cJxa1e45_init_da8c8 : ByteArray := prog_31_method_1_code
def yJxa1e45_init_da8c8 : MethodName := ⟨RJxa1e45, "<init>", "()V"⟩
def RJxc12de : String := "java/util/AbstractList"
def TJxc12de : u_T := fun k => match k with
  | _ => ("", "", "", false)
def tyJxc12de : Nat → FieldType := fun k => match k with
  | _ => .int
abbrev wsJxc12de0 : List Cond := u_ws RJxc12de TJxc12de 0
theorem nmJxc12de : ∀ a, a < 0 → ∀ b, b < 0 → a ≠ b → (TJxc12de a).2.1 ≠ (TJxc12de b).2.1 := by decide +kernel
theorem tyJxc12de_ok : ∀ k, k < 0 → parseFieldDescriptor (TJxc12de k).2.2.1 = some (tyJxc12de k) := by decide +kernel
abbrev cJxc12de_init_da8c8 : ByteArray := prog_32_method_1_code
def yJxc12de_init_da8c8 : MethodName := ⟨RJxc12de, "<init>", "()V"⟩
def RJx35411 : String := "java/util/ArrayList$Itr"
def TJx35411 : u_T := fun k => match k with
  | 0 => ("java/util/ArrayList$Itr", "cursor", "I", false)
  | 1 => ("java/util/ArrayList$Itr", "lastRet", "I", false)
  | 2 => ("java/util/ArrayList$Itr", "expectedModCount", "I", false)
  | _ => ("java/util/ArrayList$Itr", "this$0", "Ljava/util/ArrayList;", true)
def tyJx35411 : Nat → FieldType := fun k => match k with
  | 0 => .int
  | 1 => .int
  | 2 => .int
  | _ => .object "java/util/ArrayList"
abbrev wsJx354110 : List Cond := u_ws RJx35411 TJx35411 4
theorem nmJx35411 : ∀ a, a < 4 → ∀ b, b < 4 → a ≠ b → (TJx35411 a).2.1 ≠ (TJx35411 b).2.1 := by decide +kernel
theorem tyJx35411_ok : ∀ k, k < 4 → parseFieldDescriptor (TJx35411 k).2.2.1 = some (tyJx35411 k) := by decide +kernel
abbrev cJx35411_init_45d68 : ByteArray := prog_34_method_1_code
def yJx35411_init_45d68 : MethodName := ⟨RJx35411, "<init>", "(Ljava/util/ArrayList;)V"⟩
abbrev cJx35411_hasNext_aae02 : ByteArray := prog_34_method_2_code
def yJx35411_hasNext_aae02 : MethodName := ⟨RJx35411, "hasNext", "()Z"⟩
abbrev cJx35411_next_0502b : ByteArray := prog_34_method_3_code
def yJx35411_next_0502b : MethodName := ⟨RJx35411, "next", "()Ljava/lang/Object;"⟩
abbrev cJx35411_checkForComodification_da8c8 : ByteArray := prog_34_method_6_code
def yJx35411_checkForComodification_da8c8 : MethodName := ⟨RJx35411, "checkForComodification", "()V"⟩
def RJx4a65c : String := "java/util/ArrayList"
def TJx4a65c : u_T := fun k => match k with
  | 0 => ("java/util/AbstractList", "modCount", "I", false)
  | 1 => ("java/util/ArrayList", "elementData", "[Ljava/lang/Object;", false)
  | _ => ("java/util/ArrayList", "size", "I", false)
def tyJx4a65c : Nat → FieldType := fun k => match k with
  | 0 => .int
  | 1 => .array (.object "java/lang/Object")
  | _ => .int
abbrev wsJx4a65c0 : List Cond := u_ws RJx4a65c TJx4a65c 3
theorem nmJx4a65c : ∀ a, a < 3 → ∀ b, b < 3 → a ≠ b → (TJx4a65c a).2.1 ≠ (TJx4a65c b).2.1 := by decide +kernel
theorem tyJx4a65c_ok : ∀ k, k < 3 → parseFieldDescriptor (TJx4a65c k).2.2.1 = some (tyJx4a65c k) := by decide +kernel
abbrev cJx4a65c_init_da8c8 : ByteArray := prog_33_method_2_code
def yJx4a65c_init_da8c8 : MethodName := ⟨RJx4a65c, "<init>", "()V"⟩
abbrev cJx4a65c_grow_92f84 : ByteArray := prog_33_method_6_code
def yJx4a65c_grow_92f84 : MethodName := ⟨RJx4a65c, "grow", "(I)[Ljava/lang/Object;"⟩
abbrev cJx4a65c_grow_d5877 : ByteArray := prog_33_method_7_code
def yJx4a65c_grow_d5877 : MethodName := ⟨RJx4a65c, "grow", "()[Ljava/lang/Object;"⟩
abbrev cJx4a65c_size_8abf5 : ByteArray := prog_33_method_8_code
def yJx4a65c_size_8abf5 : MethodName := ⟨RJx4a65c, "size", "()I"⟩
abbrev cJx4a65c_elementData_915e3 : ByteArray := prog_33_method_18_code
def yJx4a65c_elementData_915e3 : MethodName := ⟨RJx4a65c, "elementData", "(I)Ljava/lang/Object;"⟩
abbrev cJx4a65c_get_915e3 : ByteArray := prog_33_method_20_code
def yJx4a65c_get_915e3 : MethodName := ⟨RJx4a65c, "get", "(I)Ljava/lang/Object;"⟩
abbrev cJx4a65c_set_bcc79 : ByteArray := prog_33_method_23_code
def yJx4a65c_set_bcc79 : MethodName := ⟨RJx4a65c, "set", "(ILjava/lang/Object;)Ljava/lang/Object;"⟩
abbrev cJx4a65c_add_72be8 : ByteArray := prog_33_method_24_code
def yJx4a65c_add_72be8 : MethodName := ⟨RJx4a65c, "add", "(Ljava/lang/Object;[Ljava/lang/Object;I)V"⟩
abbrev cJx4a65c_add_9ea2d : ByteArray := prog_33_method_25_code
def yJx4a65c_add_9ea2d : MethodName := ⟨RJx4a65c, "add", "(Ljava/lang/Object;)Z"⟩
abbrev cJx4a65c_add_7a177 : ByteArray := prog_33_method_26_code
def yJx4a65c_add_7a177 : MethodName := ⟨RJx4a65c, "add", "(ILjava/lang/Object;)V"⟩
abbrev cJx4a65c_remove_915e3 : ByteArray := prog_33_method_29_code
def yJx4a65c_remove_915e3 : MethodName := ⟨RJx4a65c, "remove", "(I)Ljava/lang/Object;"⟩
abbrev cJx4a65c_fastRemove_b59b0 : ByteArray := prog_33_method_39_code
def yJx4a65c_fastRemove_b59b0 : MethodName := ⟨RJx4a65c, "fastRemove", "([Ljava/lang/Object;I)V"⟩
abbrev cJx4a65c_rangeCheckForAdd_d00df : ByteArray := prog_33_method_45_code
def yJx4a65c_rangeCheckForAdd_d00df : MethodName := ⟨RJx4a65c, "rangeCheckForAdd", "(I)V"⟩
abbrev cJx4a65c_outOfBoundsMsg_b52d3 : ByteArray := prog_33_method_46_code
def yJx4a65c_outOfBoundsMsg_b52d3 : MethodName := ⟨RJx4a65c, "outOfBoundsMsg", "(I)Ljava/lang/String;"⟩
abbrev cJx4a65c_iterator_32c93 : ByteArray := prog_33_method_55_code
def yJx4a65c_iterator_32c93 : MethodName := ⟨RJx4a65c, "iterator", "()Ljava/util/Iterator;"⟩
def RJ7 : String := "java/util/Arrays"
def TJ7 : u_T := fun k => match k with
  | _ => ("", "", "", false)
def tyJ7 : Nat → FieldType := fun k => match k with
  | _ => .int
abbrev wsJ70 : List Cond := u_ws RJ7 TJ7 0
theorem nmJ7 : ∀ a, a < 0 → ∀ b, b < 0 → a ≠ b → (TJ7 a).2.1 ≠ (TJ7 b).2.1 := by decide +kernel
theorem tyJ7_ok : ∀ k, k < 0 → parseFieldDescriptor (TJ7 k).2.2.1 = some (tyJ7 k) := by decide +kernel
abbrev cJ7_copyOf_1904c : ByteArray := prog_35_method_119_code
def yJ7_copyOf_1904c : MethodName := ⟨RJ7, "copyOf", "([Ljava/lang/Object;I)[Ljava/lang/Object;"⟩
abbrev cJ7_copyOf_6403c : ByteArray := prog_35_method_120_code
def yJ7_copyOf_6403c : MethodName := ⟨RJ7, "copyOf", "([Ljava/lang/Object;ILjava/lang/Class;)[Ljava/lang/Object;"⟩
abbrev cJ7_copyOf_9075b : ByteArray := prog_35_method_121_code
def yJ7_copyOf_9075b : MethodName := ⟨RJ7, "copyOf", "([BI)[B"⟩
abbrev cJ7_checkLength_df160 : ByteArray := prog_35_method_131_code
def yJ7_checkLength_df160 : MethodName := ⟨RJ7, "checkLength", "(II)V"⟩
abbrev cJ7_copyOfRange_39247 : ByteArray := prog_35_method_132_code
def yJ7_copyOfRange_39247 : MethodName := ⟨RJ7, "copyOfRange", "([BII)[B"⟩
abbrev cJ7_copyOfRangeByte_39247 : ByteArray := prog_35_method_133_code
def yJ7_copyOfRangeByte_39247 : MethodName := ⟨RJ7, "copyOfRangeByte", "([BII)[B"⟩
def RJx5ef63 : String := "java/util/Collection"
def TJx5ef63 : u_T := fun k => match k with
  | _ => ("", "", "", false)
def tyJx5ef63 : Nat → FieldType := fun k => match k with
  | _ => .int
abbrev wsJx5ef630 : List Cond := u_ws RJx5ef63 TJx5ef63 0
theorem nmJx5ef63 : ∀ a, a < 0 → ∀ b, b < 0 → a ≠ b → (TJx5ef63 a).2.1 ≠ (TJx5ef63 b).2.1 := by decide +kernel
theorem tyJx5ef63_ok : ∀ k, k < 0 → parseFieldDescriptor (TJx5ef63 k).2.2.1 = some (tyJx5ef63 k) := by decide +kernel
def RJx4d0d8 : String := "java/util/Iterator"
def TJx4d0d8 : u_T := fun k => match k with
  | _ => ("", "", "", false)
def tyJx4d0d8 : Nat → FieldType := fun k => match k with
  | _ => .int
abbrev wsJx4d0d80 : List Cond := u_ws RJx4d0d8 TJx4d0d8 0
theorem nmJx4d0d8 : ∀ a, a < 0 → ∀ b, b < 0 → a ≠ b → (TJx4d0d8 a).2.1 ≠ (TJx4d0d8 b).2.1 := by decide +kernel
theorem tyJx4d0d8_ok : ∀ k, k < 0 → parseFieldDescriptor (TJx4d0d8 k).2.2.1 = some (tyJx4d0d8 k) := by decide +kernel
def RJxbd725 : String := "java/util/List"
def TJxbd725 : u_T := fun k => match k with
  | _ => ("", "", "", false)
def tyJxbd725 : Nat → FieldType := fun k => match k with
  | _ => .int
abbrev wsJxbd7250 : List Cond := u_ws RJxbd725 TJxbd725 0
theorem nmJxbd725 : ∀ a, a < 0 → ∀ b, b < 0 → a ≠ b → (TJxbd725 a).2.1 ≠ (TJxbd725 b).2.1 := by decide +kernel
theorem tyJxbd725_ok : ∀ k, k < 0 → parseFieldDescriptor (TJxbd725 k).2.2.1 = some (tyJxbd725 k) := by decide +kernel
def RJ15 : String := "java/util/Objects"
def TJ15 : u_T := fun k => match k with
  | _ => ("", "", "", false)
def tyJ15 : Nat → FieldType := fun k => match k with
  | _ => .int
abbrev wsJ150 : List Cond := u_ws RJ15 TJ15 0
theorem nmJ15 : ∀ a, a < 0 → ∀ b, b < 0 → a ≠ b → (TJ15 a).2.1 ≠ (TJ15 b).2.1 := by decide +kernel
theorem tyJ15_ok : ∀ k, k < 0 → parseFieldDescriptor (TJ15 k).2.2.1 = some (tyJ15 k) := by decide +kernel
abbrev cJ15_checkIndex_7cf53 : ByteArray := prog_39_method_17_code
def yJ15_checkIndex_7cf53 : MethodName := ⟨RJ15, "checkIndex", "(II)I"⟩
def RJxf0a74 : String := "java/util/RandomAccess"
def TJxf0a74 : u_T := fun k => match k with
  | _ => ("", "", "", false)
def tyJxf0a74 : Nat → FieldType := fun k => match k with
  | _ => .int
abbrev wsJxf0a740 : List Cond := u_ws RJxf0a74 TJxf0a74 0
theorem nmJxf0a74 : ∀ a, a < 0 → ∀ b, b < 0 → a ≠ b → (TJxf0a74 a).2.1 ≠ (TJxf0a74 b).2.1 := by decide +kernel
theorem tyJxf0a74_ok : ∀ k, k < 0 → parseFieldDescriptor (TJxf0a74 k).2.2.1 = some (tyJxf0a74 k) := by decide +kernel
def RJxa66e6 : String := "java/util/SequencedCollection"
def TJxa66e6 : u_T := fun k => match k with
  | _ => ("", "", "", false)
def tyJxa66e6 : Nat → FieldType := fun k => match k with
  | _ => .int
abbrev wsJxa66e60 : List Cond := u_ws RJxa66e6 TJxa66e6 0
theorem nmJxa66e6 : ∀ a, a < 0 → ∀ b, b < 0 → a ≠ b → (TJxa66e6 a).2.1 ≠ (TJxa66e6 b).2.1 := by decide +kernel
theorem tyJxa66e6_ok : ∀ k, k < 0 → parseFieldDescriptor (TJxa66e6 k).2.2.1 = some (tyJxa66e6 k) := by decide +kernel
def RJ8 : String := "jdk/internal/util/ArraysSupport"
def TJ8 : u_T := fun k => match k with
  | _ => ("", "", "", false)
def tyJ8 : Nat → FieldType := fun k => match k with
  | _ => .int
abbrev wsJ80 : List Cond := u_ws RJ8 TJ8 0
theorem nmJ8 : ∀ a, a < 0 → ∀ b, b < 0 → a ≠ b → (TJ8 a).2.1 ≠ (TJ8 b).2.1 := by decide +kernel
theorem tyJ8_ok : ∀ k, k < 0 → parseFieldDescriptor (TJ8 k).2.2.1 = some (tyJ8 k) := by decide +kernel
abbrev cJ8_newLength_cabcc : ByteArray := prog_42_method_27_code
def yJ8_newLength_cabcc : MethodName := ⟨RJ8, "newLength", "(III)I"⟩
abbrev cJ8_hugeLength_7cf53 : ByteArray := prog_42_method_28_code
def yJ8_hugeLength_7cf53 : MethodName := ⟨RJ8, "hugeLength", "(II)I"⟩
def RJ3 : String := "jdk/internal/util/Preconditions"
def TJ3 : u_T := fun k => match k with
  | _ => ("", "", "", false)
def tyJ3 : Nat → FieldType := fun k => match k with
  | _ => .int
abbrev wsJ30 : List Cond := u_ws RJ3 TJ3 0
theorem nmJ3 : ∀ a, a < 0 → ∀ b, b < 0 → a ≠ b → (TJ3 a).2.1 ≠ (TJ3 b).2.1 := by decide +kernel
theorem tyJ3_ok : ∀ k, k < 0 → parseFieldDescriptor (TJ3 k).2.2.1 = some (tyJ3 k) := by decide +kernel
abbrev cJ3_checkIndex_8e157 : ByteArray := prog_43_method_11_code
def yJ3_checkIndex_8e157 : MethodName := ⟨RJ3, "checkIndex", "(IILjava/util/function/BiFunction;)I"⟩
abbrev cJ3_checkFromToIndex_8c36e : ByteArray := prog_43_method_12_code
def yJ3_checkFromToIndex_8c36e : MethodName := ⟨RJ3, "checkFromToIndex", "(IIILjava/util/function/BiFunction;)I"⟩
abbrev cJ3_checkFromIndexSize_8c36e : ByteArray := prog_43_method_13_code
def yJ3_checkFromIndexSize_8c36e : MethodName := ⟨RJ3, "checkFromIndexSize", "(IIILjava/util/function/BiFunction;)I"⟩
def RL : String := "RangecardLaw"
abbrev cL_set : ByteArray := method_2_code
def yL_set : MethodName := ⟨RL, "set", "(LRangecard;IIILRangecardLaw$Out;)I"⟩
abbrev cL_setSmall : ByteArray := method_3_code
def yL_setSmall : MethodName := ⟨RL, "setSmall", "(LRangecard;IILRangecardLaw$Out;)I"⟩
abbrev cL_setEnd : ByteArray := method_4_code
def yL_setEnd : MethodName := ⟨RL, "setEnd", "(LRangecard;IILRangecardLaw$Out;)I"⟩
abbrev cL_move : ByteArray := method_5_code
def yL_move : MethodName := ⟨RL, "move", "(LRangecard;IILRangecardLaw$Out;)I"⟩
abbrev cL_copy : ByteArray := method_6_code
def yL_copy : MethodName := ⟨RL, "copy", "(LRangecard;IILRangecardLaw$Out;)I"⟩
abbrev cL_ofNumber : ByteArray := method_7_code
def yL_ofNumber : MethodName := ⟨RL, "ofNumber", "(LRangecard;IZLRangecardLaw$Out;)I"⟩
abbrev cL_numberText : ByteArray := method_8_code
def yL_numberText : MethodName := ⟨RL, "numberText", "(LRangecard;ILRangecardLaw$Out;)I"⟩
abbrev cL_order : ByteArray := method_9_code
def yL_order : MethodName := ⟨RL, "order", "(LRangecard;IILRangecardLaw$Out;)I"⟩
abbrev cL_two : ByteArray := method_10_code
def yL_two : MethodName := ⟨RL, "two", "(LRangecard;IIILRangecardLaw$Out;)I"⟩
abbrev cL_three : ByteArray := method_11_code
def yL_three : MethodName := ⟨RL, "three", "(LRangecard;IIIILRangecardLaw$Out;)I"⟩
abbrev cL_four : ByteArray := method_12_code
def yL_four : MethodName := ⟨RL, "four", "(LRangecard;IIIIILRangecardLaw$Out;)I"⟩
abbrev cL_twoSmall : ByteArray := method_13_code
def yL_twoSmall : MethodName := ⟨RL, "twoSmall", "(LRangecard;IIILRangecardLaw$Out;)I"⟩
abbrev cL_threeSmall : ByteArray := method_14_code
def yL_threeSmall : MethodName := ⟨RL, "threeSmall", "(LRangecard;IIIILRangecardLaw$Out;)I"⟩
abbrev cL_fourSmall : ByteArray := method_15_code
def yL_fourSmall : MethodName := ⟨RL, "fourSmall", "(LRangecard;IIIIILRangecardLaw$Out;)I"⟩
abbrev cL_again : ByteArray := method_16_code
def yL_again : MethodName := ⟨RL, "again", "(LRangecard;IILRangecardLaw$Out;)I"⟩
abbrev cL_same : ByteArray := method_17_code
def yL_same : MethodName := ⟨RL, "same", "(LRangecard;IILRangecardLaw$Out;)I"⟩
abbrev cL_outer : ByteArray := method_18_code
def yL_outer : MethodName := ⟨RL, "outer", "(LRangecard;IILRangecardLaw$Out;)I"⟩
abbrev cL_inner : ByteArray := method_19_code
def yL_inner : MethodName := ⟨RL, "inner", "(LRangecard;IILRangecardLaw$Out;)I"⟩
abbrev cL_span : ByteArray := method_20_code
def yL_span : MethodName := ⟨RL, "span", "(LRangecard;IIILRangecardLaw$Out;)I"⟩
abbrev cL_shift : ByteArray := method_21_code
def yL_shift : MethodName := ⟨RL, "shift", "(LRangecard;IILRangecardLaw$Out;)I"⟩
abbrev cL_drop : ByteArray := method_22_code
def yL_drop : MethodName := ⟨RL, "drop", "(LRangecard;ILRangecardLaw$Out;)I"⟩
abbrev cL_isThere : ByteArray := method_23_code
def yL_isThere : MethodName := ⟨RL, "isThere", "(LRangecard;ILRangecardLaw$Out;)I"⟩
abbrev cL_isFixed : ByteArray := method_24_code
def yL_isFixed : MethodName := ⟨RL, "isFixed", "(LRangecard;ILRangecardLaw$Out;)I"⟩
abbrev cL_isSmall : ByteArray := method_25_code
def yL_isSmall : MethodName := ⟨RL, "isSmall", "(LRangecard;ILRangecardLaw$Out;)I"⟩
abbrev cL_end : ByteArray := method_26_code
def yL_end : MethodName := ⟨RL, "end", "(LRangecard;IIZLRangecardLaw$Out;)I"⟩
abbrev cL_take : ByteArray := method_27_code
def yL_take : MethodName := ⟨RL, "take", "(LRangecard;IIILRangecardLaw$Out;)I"⟩
abbrev cL_cardText : ByteArray := method_28_code
def yL_cardText : MethodName := ⟨RL, "cardText", "(LRangecard;ILRangecardLaw$Out;)I"⟩
abbrev cL_isValid : ByteArray := method_29_code
def yL_isValid : MethodName := ⟨RL, "isValid", "(LRangecard;IILRangecardLaw$Out;)I"⟩
abbrev cL_isValidSmall : ByteArray := method_30_code
def yL_isValidSmall : MethodName := ⟨RL, "isValidSmall", "(LRangecard;IILRangecardLaw$Out;)I"⟩
abbrev cL_whichValid : ByteArray := method_31_code
def yL_whichValid : MethodName := ⟨RL, "whichValid", "(LRangecard;IILRangecardLaw$Out;)I"⟩
abbrev cL_around : ByteArray := method_32_code
def yL_around : MethodName := ⟨RL, "around", "(LRangecard;IIZLRangecardLaw$Out;)I"⟩
abbrev cL_count : ByteArray := method_33_code
def yL_count : MethodName := ⟨RL, "count", "(LRangecard;IIILRangecardLaw$Out;)I"⟩
abbrev cL_who : ByteArray := method_34_code
def yL_who : MethodName := ⟨RL, "who", "(LRangecard;IILRangecardLaw$Out;)I"⟩
abbrev cL_which : ByteArray := method_35_code
def yL_which : MethodName := ⟨RL, "which", "(LRangecard;ILRangecardLaw$Out;)I"⟩
abbrev cL_areSame : ByteArray := method_36_code
def yL_areSame : MethodName := ⟨RL, "areSame", "(LRangecard;IILRangecardLaw$Out;)I"⟩
abbrev cL_isSameAs : ByteArray := method_37_code
def yL_isSameAs : MethodName := ⟨RL, "isSameAs", "(LRangecard;IILRangecardLaw$Out;)I"⟩
abbrev cL_likes : ByteArray := method_38_code
def yL_likes : MethodName := ⟨RL, "likes", "(LRangecard;ILRangecardLaw$Out;)I"⟩
abbrev cL_lay : ByteArray := method_39_code
def yL_lay : MethodName := ⟨RL, "lay", "(LRangecard;ILRangecardLaw$Out;)I"⟩
abbrev cL_seek : ByteArray := method_40_code
def yL_seek : MethodName := ⟨RL, "seek", "(LRangecard;IZLRangecardLaw$Out;)I"⟩
abbrev cL_howOften : ByteArray := method_41_code
def yL_howOften : MethodName := ⟨RL, "howOften", "(LRangecard;ILRangecardLaw$Out;)I"⟩
abbrev cL_lift : ByteArray := method_42_code
def yL_lift : MethodName := ⟨RL, "lift", "(LRangecard;ILRangecardLaw$Out;)I"⟩
abbrev cL_pick : ByteArray := method_43_code
def yL_pick : MethodName := ⟨RL, "pick", "(LRangecard;IILRangecardLaw$Out;)I"⟩
abbrev cL_pile : ByteArray := method_44_code
def yL_pile : MethodName := ⟨RL, "pile", "(LRangecard;IILRangecardLaw$Out;)I"⟩
abbrev cL_house : ByteArray := method_45_code
def yL_house : MethodName := ⟨RL, "house", "(LRangecard;ILRangecardLaw$Out;)I"⟩
abbrev cL_law : ByteArray := code
def yL_law : MethodName := ⟨RL, "law", "([I)Z"⟩
abbrev vwCl : List vw_C := [(RJ0, TJ0, 4), (RJ4, TJ4, 4), (RJx35411, TJx35411, 4), (RJx4a65c, TJx4a65c, 3), (RX0, TX0, 4), (RX1, TX1, 7), (RX2, TX2, 2), (RX3, TX3, 7)]
