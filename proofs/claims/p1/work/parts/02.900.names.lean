def tyX0 : Nat → FieldType := fun k => match k with
  | 0 => .array .int
  | 1 => .array .int
  | 2 => .array .int
  | 3 => .array .int
  | _ => .int
abbrev wsX00 : List Cond := u_ws RX0 TX0 5
theorem nmX0 : ∀ a, a < 5 → ∀ b, b < 5 → a ≠ b → (TX0 a).2.1 ≠ (TX0 b).2.1 := by decide +kernel
theorem tyX0_ok : ∀ k, k < 5 → parseFieldDescriptor (TX0 k).2.2.1 = some (tyX0 k) := by decide +kernel
abbrev cX0_enter : ByteArray := prog_2_method_2_code
abbrev cX0_worth : ByteArray := prog_2_method_3_code
abbrev cX0_toldDay : ByteArray := prog_2_method_4_code
abbrev cX0_mostWorth : ByteArray := prog_2_method_5_code
abbrev cX0_daysOf : ByteArray := prog_2_method_6_code
def yX0_daysOf : MethodName := ⟨RX0, "daysOf", "(I)I"⟩
def tyX1 : Nat → FieldType := fun k => match k with
  | 0 => .array .int
  | 1 => .array .int
  | 2 => .array .int
  | 3 => .boolean
  | 4 => .int
  | 5 => .int
  | _ => .int
abbrev wsX10 : List Cond := u_ws RX1 TX1 7
theorem nmX1 : ∀ a, a < 7 → ∀ b, b < 7 → a ≠ b → (TX1 a).2.1 ≠ (TX1 b).2.1 := by decide +kernel
theorem tyX1_ok : ∀ k, k < 7 → parseFieldDescriptor (TX1 k).2.2.1 = some (tyX1 k) := by decide +kernel
abbrev cX1_threadWith : ByteArray := prog_3_method_2_code
abbrev cX1_rotate : ByteArray := prog_3_method_3_code
abbrev cX1_keepAs : ByteArray := prog_3_method_4_code
abbrev cX1_goBackTo : ByteArray := prog_3_method_5_code
abbrev cX1_shows : ByteArray := prog_3_method_6_code
abbrev cX1_shownIn : ByteArray := prog_3_method_7_code
abbrev cX1_stoodStill : ByteArray := prog_3_method_8_code
abbrev cX1_isOnAFace : ByteArray := prog_3_method_9_code
def yX1_isOnAFace : MethodName := ⟨RX1, "isOnAFace", "(II)Z"⟩
abbrev cX1_lengthOf : ByteArray := prog_3_method_10_code
abbrev cX1_isOfKindOf : ByteArray := prog_3_method_11_code
abbrev cX1_isLikeFrom : ByteArray := prog_3_method_12_code
def yX1_isLikeFrom : MethodName := ⟨RX1, "isLikeFrom", "(ILBothfaces$Card;)Z"⟩
abbrev wsX20 : List Cond := u_ws RX2 TX2 2
abbrev cX2_countWays : ByteArray := prog_4_method_2_code
abbrev cX2_goOn : ByteArray := prog_4_method_3_code
def yX2_goOn : MethodName := ⟨RX2, "goOn", "()V"⟩
abbrev cX2_dropUnseen : ByteArray := prog_4_method_4_code
def yX2_dropUnseen : MethodName := ⟨RX2, "dropUnseen", "(LBothfaces$Card;I)V"⟩
abbrev wsX30 : List Cond := u_ws RX3 TX3 2
abbrev cX3_begin : ByteArray := prog_5_method_2_code
abbrev cX3_goOn : ByteArray := prog_5_method_3_code
abbrev cX3_leastInto : ByteArray := prog_5_method_4_code
def yX3_leastInto : MethodName := ⟨RX3, "leastInto", "(IZJ)J"⟩
abbrev cX3_best : ByteArray := prog_5_method_5_code
abbrev cX3_placeOf : ByteArray := prog_5_method_6_code
def yX3_placeOf : MethodName := ⟨RX3, "placeOf", "(IZ)I"⟩
abbrev cX3_forget : ByteArray := prog_5_method_7_code
def yX3_forget : MethodName := ⟨RX3, "forget", "([J)V"⟩
def tyX4 : Nat → FieldType := fun k => match k with
  | 0 => .boolean
  | 1 => .array .int
  | 2 => .int
  | 3 => .int
  | 4 => .int
  | 5 => .int
  | _ => .int
abbrev wsX40 : List Cond := u_ws RX4 TX4 7
theorem nmX4 : ∀ a, a < 7 → ∀ b, b < 7 → a ≠ b → (TX4 a).2.1 ≠ (TX4 b).2.1 := by decide +kernel
theorem tyX4_ok : ∀ k, k < 7 → parseFieldDescriptor (TX4 k).2.2.1 = some (tyX4 k) := by decide +kernel
abbrev cX4_lay : ByteArray := prog_6_method_2_code
abbrev cX4_hasInk : ByteArray := prog_6_method_3_code
def tyX5 : Nat → FieldType := fun k => match k with
  | 0 => .array (.object "Bothfaces$Card")
  | 1 => .int
  | 2 => .int
  | 3 => .array (.array .int)
  | 4 => .array .int
  | 5 => .int
  | 6 => .object "Bothfaces$Side"
  | 7 => .object "Bothfaces$Side"
  | 8 => .object "Bothfaces$Planner"
  | 9 => .object "Bothfaces$Mender"
  | 10 => .array .int
  | 11 => .int
  | _ => .object "Bothfaces$Book"
abbrev wsX50 : List Cond := u_ws RX5 TX5 13
theorem nmX5 : ∀ a, a < 13 → ∀ b, b < 13 → a ≠ b → (TX5 a).2.1 ≠ (TX5 b).2.1 := by decide +kernel
theorem tyX5_ok : ∀ k, k < 13 → parseFieldDescriptor (TX5 k).2.2.1 = some (tyX5 k) := by decide +kernel
abbrev cX5_card : ByteArray := prog_1_method_2_code
def yX5_card : MethodName := ⟨RX5, "card", "(IIIIC)I"⟩
abbrev cX5_setPack : ByteArray := prog_1_method_3_code
def yX5_setPack : MethodName := ⟨RX5, "setPack", "(II)I"⟩
abbrev cX5_turn : ByteArray := prog_1_method_4_code
def yX5_turn : MethodName := ⟨RX5, "turn", "(IZ)I"⟩
abbrev cX5_at : ByteArray := prog_1_method_5_code
def yX5_at : MethodName := ⟨RX5, "at", "(I)I"⟩
abbrev cX5_twist : ByteArray := prog_1_method_6_code
def yX5_twist : MethodName := ⟨RX5, "twist", "(I)I"⟩
abbrev cX5_mostTwist : ByteArray := prog_1_method_7_code
def yX5_mostTwist : MethodName := ⟨RX5, "mostTwist", "()I"⟩
abbrev cX5_slip : ByteArray := prog_1_method_8_code
def yX5_slip : MethodName := ⟨RX5, "slip", "(II)I"⟩
abbrev cX5_pick : ByteArray := prog_1_method_9_code
def yX5_pick : MethodName := ⟨RX5, "pick", "()I"⟩
abbrev cX5_unweave : ByteArray := prog_1_method_10_code
def yX5_unweave : MethodName := ⟨RX5, "unweave", "()I"⟩
abbrev cX5_picks : ByteArray := prog_1_method_11_code
def yX5_picks : MethodName := ⟨RX5, "picks", "()I"⟩
abbrev cX5_colour : ByteArray := prog_1_method_12_code
def yX5_colour : MethodName := ⟨RX5, "colour", "(IIZ)I"⟩
abbrev cX5_isIdle : ByteArray := prog_1_method_13_code
def yX5_isIdle : MethodName := ⟨RX5, "isIdle", "(II)Z"⟩
abbrev cX5_longestFloat : ByteArray := prog_1_method_14_code
def yX5_longestFloat : MethodName := ⟨RX5, "longestFloat", "(I)I"⟩
abbrev cX5_draw : ByteArray := prog_1_method_15_code
def yX5_draw : MethodName := ⟨RX5, "draw", "(CII)I"⟩
abbrev cX5_type : ByteArray := prog_1_method_16_code
def yX5_type : MethodName := ⟨RX5, "type", "(C)I"⟩
abbrev cX5_wipe : ByteArray := prog_1_method_17_code
def yX5_wipe : MethodName := ⟨RX5, "wipe", "()I"⟩
abbrev cX5_motto : ByteArray := prog_1_method_18_code
def yX5_motto : MethodName := ⟨RX5, "motto", "(ZII)I"⟩
abbrev cX5_setInk : ByteArray := prog_1_method_19_code
def yX5_setInk : MethodName := ⟨RX5, "setInk", "(ZI)I"⟩
abbrev cX5_setGround : ByteArray := prog_1_method_20_code
def yX5_setGround : MethodName := ⟨RX5, "setGround", "(ZI)I"⟩
abbrev cX5_wanted : ByteArray := prog_1_method_21_code
def yX5_wanted : MethodName := ⟨RX5, "wanted", "(IIZ)I"⟩
abbrev cX5_pairs : ByteArray := prog_1_method_22_code
def yX5_pairs : MethodName := ⟨RX5, "pairs", "(I)I"⟩
abbrev cX5_canPlan : ByteArray := prog_1_method_23_code
def yX5_canPlan : MethodName := ⟨RX5, "canPlan", "(II)Z"⟩
abbrev cX5_reversals : ByteArray := prog_1_method_24_code
def yX5_reversals : MethodName := ⟨RX5, "reversals", "(II)I"⟩
abbrev cX5_planAt : ByteArray := prog_1_method_25_code
def yX5_planAt : MethodName := ⟨RX5, "planAt", "(III)C"⟩
abbrev cX5_weave : ByteArray := prog_1_method_26_code
def yX5_weave : MethodName := ⟨RX5, "weave", "(I)I"⟩
abbrev cX5_faults : ByteArray := prog_1_method_27_code
def yX5_faults : MethodName := ⟨RX5, "faults", "(Z)I"⟩
abbrev cX5_faultsOf : ByteArray := prog_1_method_28_code
def yX5_faultsOf : MethodName := ⟨RX5, "faultsOf", "(I)I"⟩
abbrev cX5_firstFault : ByteArray := prog_1_method_29_code
def yX5_firstFault : MethodName := ⟨RX5, "firstFault", "()I"⟩
abbrev cX5_suspect : ByteArray := prog_1_method_30_code
def yX5_suspect : MethodName := ⟨RX5, "suspect", "()I"⟩
abbrev cX5_ways : ByteArray := prog_1_method_31_code
def yX5_ways : MethodName := ⟨RX5, "ways", "(IIIZ)J"⟩
abbrev cX5_yarn : ByteArray := prog_1_method_32_code
def yX5_yarn : MethodName := ⟨RX5, "yarn", "(I)I"⟩
abbrev cX5_kinds : ByteArray := prog_1_method_33_code
def yX5_kinds : MethodName := ⟨RX5, "kinds", "()I"⟩
abbrev cX5_weaver : ByteArray := prog_1_method_34_code
def yX5_weaver : MethodName := ⟨RX5, "weaver", "(I)I"⟩
abbrev cX5_hand : ByteArray := prog_1_method_35_code
def yX5_hand : MethodName := ⟨RX5, "hand", "()I"⟩
abbrev cX5_order : ByteArray := prog_1_method_36_code
def yX5_order : MethodName := ⟨RX5, "order", "(III)I"⟩
abbrev cX5_readyOn : ByteArray := prog_1_method_37_code
def yX5_readyOn : MethodName := ⟨RX5, "readyOn", "(I)I"⟩
abbrev cX5_brings : ByteArray := prog_1_method_38_code
def yX5_brings : MethodName := ⟨RX5, "brings", "()I"⟩
abbrev cX5_bringsMost : ByteArray := prog_1_method_39_code
def yX5_bringsMost : MethodName := ⟨RX5, "bringsMost", "()I"⟩
abbrev cX5_checksum : ByteArray := prog_1_method_40_code
def yX5_checksum : MethodName := ⟨RX5, "checksum", "()J"⟩
abbrev cX5_rightShare : ByteArray := prog_1_method_41_code
def yX5_rightShare : MethodName := ⟨RX5, "rightShare", "()F"⟩
abbrev cX5_meanTwist : ByteArray := prog_1_method_42_code
def yX5_meanTwist : MethodName := ⟨RX5, "meanTwist", "()D"⟩
abbrev cX5_isSound : ByteArray := prog_1_method_43_code
def yX5_isSound : MethodName := ⟨RX5, "isSound", "()Z"⟩
abbrev cX5_needColour : ByteArray := prog_1_method_44_code
def yX5_needColour : MethodName := ⟨RX5, "needColour", "(I)V"⟩
abbrev cX5_needPack : ByteArray := prog_1_method_45_code
def yX5_needPack : MethodName := ⟨RX5, "needPack", "(I)V"⟩
abbrev cX5_needLetter : ByteArray := prog_1_method_46_code
def yX5_needLetter : MethodName := ⟨RX5, "needLetter", "(C)V"⟩
abbrev cX5_needPlace : ByteArray := prog_1_method_47_code
def yX5_needPlace : MethodName := ⟨RX5, "needPlace", "(I)V"⟩
abbrev cX5_needCard : ByteArray := prog_1_method_48_code
def yX5_needCard : MethodName := ⟨RX5, "needCard", "(I)V"⟩
abbrev cX5_needPick : ByteArray := prog_1_method_49_code
def yX5_needPick : MethodName := ⟨RX5, "needPick", "(I)V"⟩
abbrev cX5_needLast : ByteArray := prog_1_method_50_code
def yX5_needLast : MethodName := ⟨RX5, "needLast", "(I)V"⟩
abbrev cX5_needPlan : ByteArray := prog_1_method_51_code
def yX5_needPlan : MethodName := ⟨RX5, "needPlan", "(J)V"⟩
abbrev cX5_standAfter : ByteArray := prog_1_method_52_code
abbrev cX5_spanOf : ByteArray := prog_1_method_53_code
abbrev cX5_bitOfTurn : ByteArray := prog_1_method_54_code
abbrev cX5_goesForward : ByteArray := prog_1_method_55_code
def yX5_goesForward : MethodName := ⟨RX5, "goesForward", "(JI)Z"⟩
abbrev cX5_sideOf : ByteArray := prog_1_method_56_code
def yX5_sideOf : MethodName := ⟨RX5, "sideOf", "(Z)LBothfaces$Side;"⟩
abbrev cX5_orderedAt : ByteArray := prog_1_method_57_code
def yX5_orderedAt : MethodName := ⟨RX5, "orderedAt", "(IIZ)I"⟩
abbrev cX5_putPickIn : ByteArray := prog_1_method_58_code
def yX5_putPickIn : MethodName := ⟨RX5, "putPickIn", "()V"⟩
abbrev cX5_isNewPair : ByteArray := prog_1_method_59_code
def yX5_isNewPair : MethodName := ⟨RX5, "isNewPair", "(LBothfaces$Card;I)Z"⟩
abbrev cX5_isNewKind : ByteArray := prog_1_method_60_code
def yX5_isNewKind : MethodName := ⟨RX5, "isNewKind", "(I)Z"⟩
abbrev cX5_bestPlan : ByteArray := prog_1_method_61_code
def yX5_bestPlan : MethodName := ⟨RX5, "bestPlan", "(II)J"⟩
abbrev cX5_planOneMore : ByteArray := prog_1_method_62_code
def yX5_planOneMore : MethodName := ⟨RX5, "planOneMore", "(II)V"⟩
abbrev cX5_isFault : ByteArray := prog_1_method_63_code
def yX5_isFault : MethodName := ⟨RX5, "isFault", "(IIZ)Z"⟩
abbrev cX5_isRight : ByteArray := prog_1_method_64_code
def yX5_isRight : MethodName := ⟨RX5, "isRight", "(II)Z"⟩
abbrev cX5_faultsOn : ByteArray := prog_1_method_65_code
def yX5_faultsOn : MethodName := ⟨RX5, "faultsOn", "(IZ)I"⟩
abbrev cX5_yarnOf : ByteArray := prog_1_method_66_code
def yX5_yarnOf : MethodName := ⟨RX5, "yarnOf", "(I)I"⟩
abbrev cX5_yarnOfColours : ByteArray := prog_1_method_67_code
def yX5_yarnOfColours : MethodName := ⟨RX5, "yarnOfColours", "()I"⟩
abbrev cX5_yarnOfThreads : ByteArray := prog_1_method_68_code
def yX5_yarnOfThreads : MethodName := ⟨RX5, "yarnOfThreads", "()I"⟩
abbrev cX5_facesLieApart : ByteArray := prog_1_method_69_code
def yX5_facesLieApart : MethodName := ⟨RX5, "facesLieApart", "(LBothfaces$Card;)Z"⟩
abbrev cX5_holeOf : ByteArray := prog_1_method_70_code
abbrev cX5_plansHold : ByteArray := prog_1_method_71_code
def yX5_plansHold : MethodName := ⟨RX5, "plansHold", "(I)Z"⟩
abbrev cX5_wouldBeRight : ByteArray := prog_1_method_72_code
def yX5_wouldBeRight : MethodName := ⟨RX5, "wouldBeRight", "(IIJ)Z"⟩
def wsX0_enter : List Cond := .code yX0_enter cX0_enter 4 none :: ([.fieldLink RX0 9 "Bothfaces$Book" "days" "[I", .fieldLink RX0 24 "Bothfaces$Book" "count" "I", .fieldLink RX0 15 "Bothfaces$Book" "prices" "[I", .fieldLink RX0 18 "Bothfaces$Book" "dues" "[I"] ++ wsX00 ++ (vx_atM "java/lang/ArrayIndexOutOfBoundsException" ["java/lang/IndexOutOfBoundsException", "java/lang/RuntimeException", "java/lang/Exception"]).filter goodWord)
def wsX0_mostWorth : List Cond := .code yX0_mostWorth cX0_mostWorth 6 (some .int) :: ([.fieldLink RX0 24 "Bothfaces$Book" "count" "I", .fieldLink RX0 21 "Bothfaces$Book" "mostOf" "[I", .methodLink RX0 28 Lib.Math.max.name, .static Lib.Math.max.name, .initialized "java/lang/Math", .code Lib.Math.max.name Lib.Math.max.code 2 (some .int), .methodLink RX0 34 yX0_daysOf, .instanceMethod yX0_daysOf, .selects RX0 yX0_daysOf yX0_daysOf, .initialized RX0, .code yX0_daysOf cX0_daysOf 4 (some .int), .fieldLink RX0 9 "Bothfaces$Book" "days" "[I", .methodLink RX0 38 yX0_worth, .instanceMethod yX0_worth, .selects RX0 yX0_worth yX0_worth, .code yX0_worth cX0_worth 4 (some .int), .fieldLink RX0 18 "Bothfaces$Book" "dues" "[I", .fieldLink RX0 15 "Bothfaces$Book" "prices" "[I"] ++ wsX00 ++ (vx_atM "java/lang/ArrayIndexOutOfBoundsException" ["java/lang/IndexOutOfBoundsException", "java/lang/RuntimeException", "java/lang/Exception"]).filter goodWord)
def wsX1_threadWith : List Cond := .code yX1_threadWith cX1_threadWith 6 none :: ([.fieldLink RX1 9 "Bothfaces$Card" "threads" "[I", .fieldLink RX1 21 "Bothfaces$Card" "isS" "Z"] ++ wsX10 ++ (vx_atM "java/lang/ArrayIndexOutOfBoundsException" ["java/lang/IndexOutOfBoundsException", "java/lang/RuntimeException", "java/lang/Exception"]).filter goodWord)
def wsX5_needColour : List Cond := .code yX5_needColour cX5_needColour 1 none :: ([.classLink RX5 67 "java/lang/IllegalArgumentException", .initialized "java/lang/IllegalArgumentException"] ++ (vx_atS RX5 71 "java/lang/IllegalArgumentException" ["java/lang/RuntimeException", "java/lang/Exception"]).filter goodWord)
def wsX5_card : List Cond := .code yX5_card cX5_card 6 (some .int) :: ([.classLink RX5 67 "java/lang/IllegalArgumentException", .initialized "java/lang/IllegalArgumentException", .classLink RX5 78 "java/lang/UnsupportedOperationException", .initialized "java/lang/UnsupportedOperationException", .classLink RX5 86 "java/lang/IllegalStateException", .initialized "java/lang/IllegalStateException", .fieldLink RX5 74 "Bothfaces" "pickCount" "I", .fieldLink RX5 83 "Bothfaces" "cardCount" "I", .fieldLink RX5 13 "Bothfaces" "cards" "[LBothfaces$Card;", .methodLink RX5 63 yX5_needColour, .static yX5_needColour, .initialized RX5, .code yX5_needColour cX5_needColour 1 none, .instanceMethod yX1_threadWith, .initialized RX1, .selects RX1 yX1_threadWith yX1_threadWith, .code yX1_threadWith cX1_threadWith 6 none, .fieldLink RX1 9 "Bothfaces$Card" "threads" "[I", .fieldLink RX1 21 "Bothfaces$Card" "isS" "Z"] ++ wsX50 ++ wsX10 ++ (vx_atS RX5 71 "java/lang/IllegalArgumentException" ["java/lang/RuntimeException", "java/lang/Exception"]).filter goodWord ++ (vx_atS RX5 82 "java/lang/UnsupportedOperationException" ["java/lang/RuntimeException", "java/lang/Exception"]).filter goodWord ++ (vx_atS RX5 90 "java/lang/IllegalStateException" ["java/lang/RuntimeException", "java/lang/Exception"]).filter goodWord ++ (vx_atM "java/lang/ArrayIndexOutOfBoundsException" ["java/lang/IndexOutOfBoundsException", "java/lang/RuntimeException", "java/lang/Exception"]).filter goodWord)
def wsX5_needCard : List Cond := .code yX5_needCard cX5_needCard 2 none :: ([.classLink RX5 264 "java/lang/IndexOutOfBoundsException", .initialized "java/lang/IndexOutOfBoundsException", .fieldLink RX5 83 "Bothfaces" "cardCount" "I"] ++ wsX50 ++ (vx_atS RX5 268 "java/lang/IndexOutOfBoundsException" ["java/lang/RuntimeException", "java/lang/Exception"]).filter goodWord)
def wsX5_needPack : List Cond := .code yX5_needPack cX5_needPack 1 none :: ([.classLink RX5 67 "java/lang/IllegalArgumentException", .initialized "java/lang/IllegalArgumentException"] ++ (vx_atS RX5 71 "java/lang/IllegalArgumentException" ["java/lang/RuntimeException", "java/lang/Exception"]).filter goodWord)
def wsX5_setPack : List Cond := .code yX5_setPack cX5_setPack 4 (some .int) :: ([.fieldLink RX5 13 "Bothfaces" "cards" "[LBothfaces$Card;", .methodLink RX5 95 yX5_needCard, .instanceMethod yX5_needCard, .selects RX5 yX5_needCard yX5_needCard, .initialized RX5, .code yX5_needCard cX5_needCard 2 none, .classLink RX5 264 "java/lang/IndexOutOfBoundsException", .initialized "java/lang/IndexOutOfBoundsException", .fieldLink RX5 83 "Bothfaces" "cardCount" "I", .methodLink RX5 98 yX5_needPack, .static yX5_needPack, .code yX5_needPack cX5_needPack 1 none, .classLink RX5 67 "java/lang/IllegalArgumentException", .initialized "java/lang/IllegalArgumentException"] ++ wsX50 ++ wsX10 ++ (vx_atS RX5 268 "java/lang/IndexOutOfBoundsException" ["java/lang/RuntimeException", "java/lang/Exception"]).filter goodWord ++ (vx_atS RX5 71 "java/lang/IllegalArgumentException" ["java/lang/RuntimeException", "java/lang/Exception"]).filter goodWord)
def wsX5_turn : List Cond := .code yX5_turn cX5_turn 5 (some .int) :: ([.fieldLink RX5 83 "Bothfaces" "cardCount" "I", .fieldLink RX5 13 "Bothfaces" "cards" "[LBothfaces$Card;", .methodLink RX5 98 yX5_needPack, .static yX5_needPack, .initialized RX5, .code yX5_needPack cX5_needPack 1 none, .classLink RX5 67 "java/lang/IllegalArgumentException", .initialized "java/lang/IllegalArgumentException", .instanceMethod yX1_rotate, .initialized RX1, .selects RX1 yX1_rotate yX1_rotate, .code yX1_rotate cX1_rotate 2 none, .fieldLink RX1 25 "Bothfaces$Card" "stand" "I", .fieldLink RX1 33 "Bothfaces$Card" "twist" "I", .fieldLink RX1 21 "Bothfaces$Card" "isS" "Z", .static yX5_standAfter, .code yX5_standAfter cX5_standAfter 2 (some .int)] ++ wsX50 ++ wsX10 ++ (vx_atS RX5 71 "java/lang/IllegalArgumentException" ["java/lang/RuntimeException", "java/lang/Exception"]).filter goodWord)
def wsX5_at : List Cond := .code yX5_at cX5_at 2 (some .int) :: ([.fieldLink RX5 13 "Bothfaces" "cards" "[LBothfaces$Card;", .methodLink RX5 95 yX5_needCard, .instanceMethod yX5_needCard, .selects RX5 yX5_needCard yX5_needCard, .initialized RX5, .code yX5_needCard cX5_needCard 2 none, .classLink RX5 264 "java/lang/IndexOutOfBoundsException", .initialized "java/lang/IndexOutOfBoundsException", .fieldLink RX5 83 "Bothfaces" "cardCount" "I"] ++ wsX50 ++ wsX10 ++ (vx_atS RX5 268 "java/lang/IndexOutOfBoundsException" ["java/lang/RuntimeException", "java/lang/Exception"]).filter goodWord)
def wsX5_twist : List Cond := .code yX5_twist cX5_twist 2 (some .int) :: ([.fieldLink RX5 13 "Bothfaces" "cards" "[LBothfaces$Card;", .methodLink RX5 95 yX5_needCard, .instanceMethod yX5_needCard, .selects RX5 yX5_needCard yX5_needCard, .initialized RX5, .code yX5_needCard cX5_needCard 2 none, .classLink RX5 264 "java/lang/IndexOutOfBoundsException", .initialized "java/lang/IndexOutOfBoundsException", .fieldLink RX5 83 "Bothfaces" "cardCount" "I"] ++ wsX50 ++ wsX10 ++ (vx_atS RX5 268 "java/lang/IndexOutOfBoundsException" ["java/lang/RuntimeException", "java/lang/Exception"]).filter goodWord)
def wsX5_mostTwist : List Cond := .code yX5_mostTwist cX5_mostTwist 3 (some .int) :: ([.fieldLink RX5 83 "Bothfaces" "cardCount" "I", .fieldLink RX5 13 "Bothfaces" "cards" "[LBothfaces$Card;", .methodLink RX5 113 Lib.Math.abs.name, .static Lib.Math.abs.name, .initialized "java/lang/Math", .code Lib.Math.abs.name Lib.Math.abs.code 1 (some .int), .methodLink RX5 119 Lib.Math.max.name, .static Lib.Math.max.name, .code Lib.Math.max.name Lib.Math.max.code 2 (some .int)] ++ wsX50 ++ wsX10)
def wsX5_slip : List Cond := .code yX5_slip cX5_slip 3 (some .int) :: ([.classLink RX5 67 "java/lang/IllegalArgumentException", .initialized "java/lang/IllegalArgumentException", .fieldLink RX5 13 "Bothfaces" "cards" "[LBothfaces$Card;", .methodLink RX5 95 yX5_needCard, .instanceMethod yX5_needCard, .selects RX5 yX5_needCard yX5_needCard, .initialized RX5, .code yX5_needCard cX5_needCard 2 none, .classLink RX5 264 "java/lang/IndexOutOfBoundsException", .initialized "java/lang/IndexOutOfBoundsException", .fieldLink RX5 83 "Bothfaces" "cardCount" "I", .methodLink RX5 125 yX5_standAfter, .static yX5_standAfter, .code yX5_standAfter cX5_standAfter 2 (some .int)] ++ wsX50 ++ wsX10 ++ (vx_atS RX5 71 "java/lang/IllegalArgumentException" ["java/lang/RuntimeException", "java/lang/Exception"]).filter goodWord ++ (vx_atS RX5 268 "java/lang/IndexOutOfBoundsException" ["java/lang/RuntimeException", "java/lang/Exception"]).filter goodWord)
def wsX5_pick : List Cond := .code yX5_pick cX5_pick 1 (some .int) :: ([.classLink RX5 78 "java/lang/UnsupportedOperationException", .initialized "java/lang/UnsupportedOperationException", .classLink RX5 86 "java/lang/IllegalStateException", .initialized "java/lang/IllegalStateException", .fieldLink RX5 83 "Bothfaces" "cardCount" "I", .fieldLink RX5 74 "Bothfaces" "pickCount" "I", .methodLink RX5 132 yX5_putPickIn, .instanceMethod yX5_putPickIn, .selects RX5 yX5_putPickIn yX5_putPickIn, .initialized RX5, .code yX5_putPickIn cX5_putPickIn 2 none, .fieldLink RX5 13 "Bothfaces" "cards" "[LBothfaces$Card;", .instanceMethod yX1_keepAs, .initialized RX1, .selects RX1 yX1_keepAs yX1_keepAs, .code yX1_keepAs cX1_keepAs 2 none, .fieldLink RX1 15 "Bothfaces$Card" "stands" "[I", .fieldLink RX1 25 "Bothfaces$Card" "stand" "I", .fieldLink RX1 18 "Bothfaces$Card" "twists" "[I", .fieldLink RX1 33 "Bothfaces$Card" "twist" "I"] ++ wsX50 ++ wsX10 ++ (vx_atS RX5 82 "java/lang/UnsupportedOperationException" ["java/lang/RuntimeException", "java/lang/Exception"]).filter goodWord ++ (vx_atS RX5 90 "java/lang/IllegalStateException" ["java/lang/RuntimeException", "java/lang/Exception"]).filter goodWord ++ (vx_atM "java/lang/ArrayIndexOutOfBoundsException" ["java/lang/IndexOutOfBoundsException", "java/lang/RuntimeException", "java/lang/Exception"]).filter goodWord)
def wsX5_unweave : List Cond := .code yX5_unweave cX5_unweave 2 (some .int) :: ([.classLink RX5 78 "java/lang/UnsupportedOperationException", .initialized "java/lang/UnsupportedOperationException", .fieldLink RX5 74 "Bothfaces" "pickCount" "I", .fieldLink RX5 83 "Bothfaces" "cardCount" "I", .fieldLink RX5 13 "Bothfaces" "cards" "[LBothfaces$Card;", .instanceMethod yX1_goBackTo, .initialized RX1, .selects RX1 yX1_goBackTo yX1_goBackTo, .code yX1_goBackTo cX1_goBackTo 2 none, .fieldLink RX1 15 "Bothfaces$Card" "stands" "[I", .fieldLink RX1 25 "Bothfaces$Card" "stand" "I", .fieldLink RX1 18 "Bothfaces$Card" "twists" "[I", .fieldLink RX1 33 "Bothfaces$Card" "twist" "I"] ++ wsX50 ++ wsX10 ++ (vx_atS RX5 82 "java/lang/UnsupportedOperationException" ["java/lang/RuntimeException", "java/lang/Exception"]).filter goodWord ++ (vx_atM "java/lang/ArrayIndexOutOfBoundsException" ["java/lang/IndexOutOfBoundsException", "java/lang/RuntimeException", "java/lang/Exception"]).filter goodWord)
def wsX5_picks : List Cond := .code yX5_picks cX5_picks 1 (some .int) :: ([.fieldLink RX5 74 "Bothfaces" "pickCount" "I"] ++ wsX50)
def wsX5_colour_r1 : List Cond := [Cond.fieldLink RX5 13 "Bothfaces" "cards" "[LBothfaces$Card;", Cond.methodLink RX5 95 yX5_needCard, Cond.instanceMethod yX5_needCard, Cond.selects RX5 yX5_needCard yX5_needCard, Cond.initialized RX5, Cond.code yX5_needCard cX5_needCard 2 none, Cond.classLink RX5 264 "java/lang/IndexOutOfBoundsException", Cond.initialized "java/lang/IndexOutOfBoundsException", Cond.fieldLink RX5 83 "Bothfaces" "cardCount" "I", Cond.methodLink RX5 140 yX5_needPick, Cond.instanceMethod yX5_needPick, Cond.selects RX5 yX5_needPick yX5_needPick, Cond.code yX5_needPick cX5_needPick 2 none, Cond.fieldLink RX5 74 "Bothfaces" "pickCount" "I", Cond.instanceMethod yX1_shownIn, Cond.initialized RX1, Cond.selects RX1 yX1_shownIn yX1_shownIn, Cond.code yX1_shownIn cX1_shownIn 3 (some .int), Cond.fieldLink RX1 15 "Bothfaces$Card" "stands" "[I", Cond.methodLink RX1 40 yX1_shows, Cond.instanceMethod yX1_shows, Cond.selects RX1 yX1_shows yX1_shows, Cond.code yX1_shows cX1_shows 3 (some .int), Cond.fieldLink RX1 9 "Bothfaces$Card" "threads" "[I"]
def wsX5_colour_r2 : List Cond := [Cond.static yX5_holeOf, Cond.code yX5_holeOf cX5_holeOf 2 (some .int), Cond.methodLink RX5 125 yX5_standAfter, Cond.static yX5_standAfter, Cond.code yX5_standAfter cX5_standAfter 2 (some .int)]
def wsX5_colour : List Cond := .code yX5_colour cX5_colour 4 (some .int) :: ((wsX5_colour_r1 ++ wsX5_colour_r2) ++ wsX50 ++ wsX10 ++ (vx_atS RX5 268 "java/lang/IndexOutOfBoundsException" ["java/lang/RuntimeException", "java/lang/Exception"]).filter goodWord ++ (vx_atM "java/lang/ArrayIndexOutOfBoundsException" ["java/lang/IndexOutOfBoundsException", "java/lang/RuntimeException", "java/lang/Exception"]).filter goodWord)
def wsX5_isIdle : List Cond := .code yX5_isIdle cX5_isIdle 3 (some .boolean) :: ([.fieldLink RX5 13 "Bothfaces" "cards" "[LBothfaces$Card;", .methodLink RX5 95 yX5_needCard, .instanceMethod yX5_needCard, .selects RX5 yX5_needCard yX5_needCard, .initialized RX5, .code yX5_needCard cX5_needCard 2 none, .classLink RX5 264 "java/lang/IndexOutOfBoundsException", .initialized "java/lang/IndexOutOfBoundsException", .fieldLink RX5 83 "Bothfaces" "cardCount" "I", .methodLink RX5 140 yX5_needPick, .instanceMethod yX5_needPick, .selects RX5 yX5_needPick yX5_needPick, .code yX5_needPick cX5_needPick 2 none, .fieldLink RX5 74 "Bothfaces" "pickCount" "I", .instanceMethod yX1_stoodStill, .initialized RX1, .selects RX1 yX1_stoodStill yX1_stoodStill, .code yX1_stoodStill cX1_stoodStill 2 (some .boolean), .fieldLink RX1 15 "Bothfaces$Card" "stands" "[I"] ++ wsX50 ++ wsX10 ++ (vx_atS RX5 268 "java/lang/IndexOutOfBoundsException" ["java/lang/RuntimeException", "java/lang/Exception"]).filter goodWord ++ (vx_atM "java/lang/ArrayIndexOutOfBoundsException" ["java/lang/IndexOutOfBoundsException", "java/lang/RuntimeException", "java/lang/Exception"]).filter goodWord)
def wsX5_longestFloat : List Cond := .code yX5_longestFloat cX5_longestFloat 5 (some .int) :: ([.fieldLink RX5 74 "Bothfaces" "pickCount" "I", .fieldLink RX5 13 "Bothfaces" "cards" "[LBothfaces$Card;", .methodLink RX5 119 Lib.Math.max.name, .static Lib.Math.max.name, .initialized "java/lang/Math", .code Lib.Math.max.name Lib.Math.max.code 2 (some .int), .methodLink RX5 95 yX5_needCard, .instanceMethod yX5_needCard, .selects RX5 yX5_needCard yX5_needCard, .initialized RX5, .code yX5_needCard cX5_needCard 2 none, .classLink RX5 264 "java/lang/IndexOutOfBoundsException", .initialized "java/lang/IndexOutOfBoundsException", .fieldLink RX5 83 "Bothfaces" "cardCount" "I", .instanceMethod yX1_stoodStill, .initialized RX1, .selects RX1 yX1_stoodStill yX1_stoodStill, .code yX1_stoodStill cX1_stoodStill 2 (some .boolean), .fieldLink RX1 15 "Bothfaces$Card" "stands" "[I"] ++ wsX50 ++ wsX10 ++ (vx_atS RX5 268 "java/lang/IndexOutOfBoundsException" ["java/lang/RuntimeException", "java/lang/Exception"]).filter goodWord ++ (vx_atM "java/lang/ArrayIndexOutOfBoundsException" ["java/lang/IndexOutOfBoundsException", "java/lang/RuntimeException", "java/lang/Exception"]).filter goodWord)
def wsX5_needLetter : List Cond := .code yX5_needLetter cX5_needLetter 1 none :: ([.classLink RX5 67 "java/lang/IllegalArgumentException", .initialized "java/lang/IllegalArgumentException"] ++ (vx_atS RX5 71 "java/lang/IllegalArgumentException" ["java/lang/RuntimeException", "java/lang/Exception"]).filter goodWord)
def wsX5_draw : List Cond := .code yX5_draw cX5_draw 5 (some .int) :: ([.classLink RX5 67 "java/lang/IllegalArgumentException", .initialized "java/lang/IllegalArgumentException", .fieldLink RX5 19 "Bothfaces" "drawn" "[[I", .methodLink RX5 151 yX5_needLetter, .static yX5_needLetter, .initialized RX5, .code yX5_needLetter cX5_needLetter 1 none] ++ wsX50 ++ (vx_atS RX5 71 "java/lang/IllegalArgumentException" ["java/lang/RuntimeException", "java/lang/Exception"]).filter goodWord ++ (vx_atM "java/lang/ArrayIndexOutOfBoundsException" ["java/lang/IndexOutOfBoundsException", "java/lang/RuntimeException", "java/lang/Exception"]).filter goodWord)
def wsX5_type : List Cond := .code yX5_type cX5_type 2 (some .int) :: ([.classLink RX5 86 "java/lang/IllegalStateException", .initialized "java/lang/IllegalStateException", .fieldLink RX5 157 "Bothfaces" "typedCount" "I", .fieldLink RX5 22 "Bothfaces" "typed" "[I", .methodLink RX5 151 yX5_needLetter, .static yX5_needLetter, .initialized RX5, .code yX5_needLetter cX5_needLetter 1 none, .classLink RX5 67 "java/lang/IllegalArgumentException", .initialized "java/lang/IllegalArgumentException"] ++ wsX50 ++ (vx_atS RX5 90 "java/lang/IllegalStateException" ["java/lang/RuntimeException", "java/lang/Exception"]).filter goodWord ++ (vx_atM "java/lang/ArrayIndexOutOfBoundsException" ["java/lang/IndexOutOfBoundsException", "java/lang/RuntimeException", "java/lang/Exception"]).filter goodWord ++ (vx_atS RX5 71 "java/lang/IllegalArgumentException" ["java/lang/RuntimeException", "java/lang/Exception"]).filter goodWord)
def wsX5_wipe : List Cond := .code yX5_wipe cX5_wipe 2 (some .int) :: ([.fieldLink RX5 157 "Bothfaces" "typedCount" "I"] ++ wsX50)
def wsX5_sideOf : List Cond := .code yX5_sideOf cX5_sideOf 2 (some (.object "Bothfaces$Side")) :: ([.fieldLink RX5 35 "Bothfaces" "back" "LBothfaces$Side;", .fieldLink RX5 31 "Bothfaces" "front" "LBothfaces$Side;"] ++ wsX50)
def wsX5_motto_r1 : List Cond := [Cond.classLink RX5 78 "java/lang/UnsupportedOperationException", Cond.initialized "java/lang/UnsupportedOperationException", Cond.fieldLink RX5 157 "Bothfaces" "typedCount" "I", Cond.fieldLink RX5 83 "Bothfaces" "cardCount" "I", Cond.fieldLink RX5 22 "Bothfaces" "typed" "[I", Cond.methodLink RX5 95 yX5_needCard, Cond.instanceMethod yX5_needCard, Cond.selects RX5 yX5_needCard yX5_needCard, Cond.initialized RX5, Cond.code yX5_needCard cX5_needCard 2 none, Cond.classLink RX5 264 "java/lang/IndexOutOfBoundsException", Cond.initialized "java/lang/IndexOutOfBoundsException", Cond.methodLink RX5 162 yX5_needPlace, Cond.static yX5_needPlace, Cond.code yX5_needPlace cX5_needPlace 1 none, Cond.classLink RX5 67 "java/lang/IllegalArgumentException", Cond.initialized "java/lang/IllegalArgumentException", Cond.methodLink RX5 167 yX5_spanOf, Cond.static yX5_spanOf, Cond.code yX5_spanOf cX5_spanOf 1 (some .int), Cond.methodLink RX5 172 yX5_sideOf, Cond.instanceMethod yX5_sideOf, Cond.selects RX5 yX5_sideOf yX5_sideOf, Cond.code yX5_sideOf cX5_sideOf 2 (some (.object "Bothfaces$Side"))]
def wsX5_motto_r2 : List Cond := [Cond.fieldLink RX5 35 "Bothfaces" "back" "LBothfaces$Side;", Cond.fieldLink RX5 31 "Bothfaces" "front" "LBothfaces$Side;", Cond.instanceMethod yX4_lay, Cond.initialized RX4, Cond.selects RX4 yX4_lay yX4_lay, Cond.code yX4_lay cX4_lay 5 none, Cond.fieldLink RX4 9 "Bothfaces$Side" "letters" "[I", Cond.methodLink RX4 23 arraycopyName, Cond.native arraycopyName, Cond.static arraycopyName, Cond.initialized "java/lang/System", Cond.fieldLink RX4 29 "Bothfaces$Side" "letterCount" "I", Cond.fieldLink RX4 32 "Bothfaces$Side" "firstCard" "I", Cond.fieldLink RX4 35 "Bothfaces$Side" "firstPick" "I"]
def wsX5_motto : List Cond := .code yX5_motto cX5_motto 5 (some .int) :: ((wsX5_motto_r1 ++ wsX5_motto_r2) ++ wsX50 ++ wsX40 ++ (vx_atS RX5 82 "java/lang/UnsupportedOperationException" ["java/lang/RuntimeException", "java/lang/Exception"]).filter goodWord ++ (vx_atS RX5 268 "java/lang/IndexOutOfBoundsException" ["java/lang/RuntimeException", "java/lang/Exception"]).filter goodWord ++ (vx_atS RX5 71 "java/lang/IllegalArgumentException" ["java/lang/RuntimeException", "java/lang/Exception"]).filter goodWord)
def wsX5_setInk : List Cond := .code yX5_setInk cX5_setInk 5 (some .int) :: ([.methodLink RX5 63 yX5_needColour, .static yX5_needColour, .initialized RX5, .code yX5_needColour cX5_needColour 1 none, .classLink RX5 67 "java/lang/IllegalArgumentException", .initialized "java/lang/IllegalArgumentException", .methodLink RX5 172 yX5_sideOf, .instanceMethod yX5_sideOf, .selects RX5 yX5_sideOf yX5_sideOf, .code yX5_sideOf cX5_sideOf 2 (some (.object "Bothfaces$Side")), .fieldLink RX5 35 "Bothfaces" "back" "LBothfaces$Side;", .fieldLink RX5 31 "Bothfaces" "front" "LBothfaces$Side;"] ++ wsX40 ++ wsX50 ++ (vx_atS RX5 71 "java/lang/IllegalArgumentException" ["java/lang/RuntimeException", "java/lang/Exception"]).filter goodWord)
def wsX5_setGround : List Cond := .code yX5_setGround cX5_setGround 5 (some .int) :: ([.methodLink RX5 63 yX5_needColour, .static yX5_needColour, .initialized RX5, .code yX5_needColour cX5_needColour 1 none, .classLink RX5 67 "java/lang/IllegalArgumentException", .initialized "java/lang/IllegalArgumentException", .methodLink RX5 172 yX5_sideOf, .instanceMethod yX5_sideOf, .selects RX5 yX5_sideOf yX5_sideOf, .code yX5_sideOf cX5_sideOf 2 (some (.object "Bothfaces$Side")), .fieldLink RX5 35 "Bothfaces" "back" "LBothfaces$Side;", .fieldLink RX5 31 "Bothfaces" "front" "LBothfaces$Side;"] ++ wsX40 ++ wsX50 ++ (vx_atS RX5 71 "java/lang/IllegalArgumentException" ["java/lang/RuntimeException", "java/lang/Exception"]).filter goodWord)
def wsX5_wanted_r1 : List Cond := [Cond.methodLink RX5 95 yX5_needCard, Cond.instanceMethod yX5_needCard, Cond.selects RX5 yX5_needCard yX5_needCard, Cond.initialized RX5, Cond.code yX5_needCard cX5_needCard 2 none, Cond.classLink RX5 264 "java/lang/IndexOutOfBoundsException", Cond.initialized "java/lang/IndexOutOfBoundsException", Cond.fieldLink RX5 83 "Bothfaces" "cardCount" "I", Cond.methodLink RX5 162 yX5_needPlace, Cond.static yX5_needPlace, Cond.code yX5_needPlace cX5_needPlace 1 none, Cond.classLink RX5 67 "java/lang/IllegalArgumentException", Cond.initialized "java/lang/IllegalArgumentException", Cond.methodLink RX5 186 yX5_orderedAt, Cond.instanceMethod yX5_orderedAt, Cond.selects RX5 yX5_orderedAt yX5_orderedAt, Cond.code yX5_orderedAt cX5_orderedAt 5 (some .int), Cond.fieldLink RX5 19 "Bothfaces" "drawn" "[[I", Cond.methodLink RX5 172 yX5_sideOf, Cond.instanceMethod yX5_sideOf, Cond.selects RX5 yX5_sideOf yX5_sideOf, Cond.code yX5_sideOf cX5_sideOf 2 (some (.object "Bothfaces$Side")), Cond.fieldLink RX5 35 "Bothfaces" "back" "LBothfaces$Side;", Cond.fieldLink RX5 31 "Bothfaces" "front" "LBothfaces$Side;"]
def wsX5_wanted_r2 : List Cond := [Cond.instanceMethod yX4_hasInk, Cond.initialized RX4, Cond.selects RX4 yX4_hasInk yX4_hasInk, Cond.code yX4_hasInk cX4_hasInk 10 (some .boolean), Cond.fieldLink RX4 32 "Bothfaces$Side" "firstCard" "I", Cond.fieldLink RX4 35 "Bothfaces$Side" "firstPick" "I", Cond.fieldLink RX4 29 "Bothfaces$Side" "letterCount" "I", Cond.fieldLink RX4 19 "Bothfaces$Side" "isBack" "Z", Cond.fieldLink RX4 9 "Bothfaces$Side" "letters" "[I", Cond.static yX5_spanOf, Cond.code yX5_spanOf cX5_spanOf 1 (some .int)]
def wsX5_wanted : List Cond := .code yX5_wanted cX5_wanted 4 (some .int) :: ((wsX5_wanted_r1 ++ wsX5_wanted_r2) ++ wsX50 ++ wsX40 ++ (vx_atS RX5 268 "java/lang/IndexOutOfBoundsException" ["java/lang/RuntimeException", "java/lang/Exception"]).filter goodWord ++ (vx_atS RX5 71 "java/lang/IllegalArgumentException" ["java/lang/RuntimeException", "java/lang/Exception"]).filter goodWord ++ (vx_atM "java/lang/ArrayIndexOutOfBoundsException" ["java/lang/IndexOutOfBoundsException", "java/lang/RuntimeException", "java/lang/Exception"]).filter goodWord)
def wsX5_pairs : List Cond := .code yX5_pairs cX5_pairs 4 (some .int) :: ([.fieldLink RX5 13 "Bothfaces" "cards" "[LBothfaces$Card;", .methodLink RX5 95 yX5_needCard, .instanceMethod yX5_needCard, .selects RX5 yX5_needCard yX5_needCard, .initialized RX5, .code yX5_needCard cX5_needCard 2 none, .classLink RX5 264 "java/lang/IndexOutOfBoundsException", .initialized "java/lang/IndexOutOfBoundsException", .fieldLink RX5 83 "Bothfaces" "cardCount" "I", .methodLink RX5 190 yX5_isNewPair, .static yX5_isNewPair, .code yX5_isNewPair cX5_isNewPair 3 (some .boolean), .instanceMethod yX1_shows, .initialized RX1, .selects RX1 yX1_shows yX1_shows, .code yX1_shows cX1_shows 3 (some .int), .fieldLink RX1 9 "Bothfaces$Card" "threads" "[I", .static yX5_holeOf, .code yX5_holeOf cX5_holeOf 2 (some .int), .methodLink RX5 125 yX5_standAfter, .static yX5_standAfter, .code yX5_standAfter cX5_standAfter 2 (some .int)] ++ wsX50 ++ wsX10 ++ (vx_atS RX5 268 "java/lang/IndexOutOfBoundsException" ["java/lang/RuntimeException", "java/lang/Exception"]).filter goodWord ++ (vx_atM "java/lang/ArrayIndexOutOfBoundsException" ["java/lang/IndexOutOfBoundsException", "java/lang/RuntimeException", "java/lang/Exception"]).filter goodWord)
def wsX5_needLast : List Cond := .code yX5_needLast cX5_needLast 2 none :: ([.classLink RX5 67 "java/lang/IllegalArgumentException", .initialized "java/lang/IllegalArgumentException", .fieldLink RX5 74 "Bothfaces" "pickCount" "I"] ++ wsX50 ++ (vx_atS RX5 71 "java/lang/IllegalArgumentException" ["java/lang/RuntimeException", "java/lang/Exception"]).filter goodWord)
def wsX5_canPlan_r1 : List Cond := [Cond.constantLong RX5 201 (9223372036854775807), Cond.methodLink RX5 95 yX5_needCard, Cond.instanceMethod yX5_needCard, Cond.selects RX5 yX5_needCard yX5_needCard, Cond.initialized RX5, Cond.code yX5_needCard cX5_needCard 2 none, Cond.classLink RX5 264 "java/lang/IndexOutOfBoundsException", Cond.initialized "java/lang/IndexOutOfBoundsException", Cond.fieldLink RX5 83 "Bothfaces" "cardCount" "I", Cond.methodLink RX5 194 yX5_needLast, Cond.instanceMethod yX5_needLast, Cond.selects RX5 yX5_needLast yX5_needLast, Cond.code yX5_needLast cX5_needLast 2 none, Cond.classLink RX5 67 "java/lang/IllegalArgumentException", Cond.initialized "java/lang/IllegalArgumentException", Cond.fieldLink RX5 74 "Bothfaces" "pickCount" "I", Cond.methodLink RX5 197 yX5_bestPlan, Cond.instanceMethod yX5_bestPlan, Cond.selects RX5 yX5_bestPlan yX5_bestPlan, Cond.code yX5_bestPlan cX5_bestPlan 4 (some .long), Cond.fieldLink RX5 41 "Bothfaces" "planner" "LBothfaces$Planner;", Cond.fieldLink RX5 13 "Bothfaces" "cards" "[LBothfaces$Card;", Cond.instanceMethod yX3_begin, Cond.initialized RX3]
def wsX5_canPlan_r2 : List Cond := [Cond.selects RX3 yX3_begin yX3_begin, Cond.code yX3_begin cX3_begin 2 none, Cond.fieldLink RX3 9 "Bothfaces$Planner" "reached" "[J", Cond.methodLink RX3 18 yX3_forget, Cond.static yX3_forget, Cond.code yX3_forget cX3_forget 2 none, Cond.constantLong RX3 43 (9223372036854775807), Cond.methodLink RX3 22 yX3_placeOf, Cond.static yX3_placeOf, Cond.code yX3_placeOf cX3_placeOf 2 (some .int), Cond.methodLink RX5 337 yX5_planOneMore, Cond.instanceMethod yX5_planOneMore, Cond.selects RX5 yX5_planOneMore yX5_planOneMore, Cond.code yX5_planOneMore cX5_planOneMore 3 none, Cond.methodLink RX5 186 yX5_orderedAt, Cond.instanceMethod yX5_orderedAt, Cond.selects RX5 yX5_orderedAt yX5_orderedAt, Cond.code yX5_orderedAt cX5_orderedAt 5 (some .int), Cond.fieldLink RX5 19 "Bothfaces" "drawn" "[[I", Cond.methodLink RX5 172 yX5_sideOf, Cond.instanceMethod yX5_sideOf, Cond.selects RX5 yX5_sideOf yX5_sideOf, Cond.code yX5_sideOf cX5_sideOf 2 (some (.object "Bothfaces$Side")), Cond.fieldLink RX5 35 "Bothfaces" "back" "LBothfaces$Side;"]
def wsX5_canPlan_r3 : List Cond := [Cond.fieldLink RX5 31 "Bothfaces" "front" "LBothfaces$Side;", Cond.instanceMethod yX4_hasInk, Cond.initialized RX4, Cond.selects RX4 yX4_hasInk yX4_hasInk, Cond.code yX4_hasInk cX4_hasInk 10 (some .boolean), Cond.fieldLink RX4 32 "Bothfaces$Side" "firstCard" "I", Cond.fieldLink RX4 35 "Bothfaces$Side" "firstPick" "I", Cond.fieldLink RX4 29 "Bothfaces$Side" "letterCount" "I", Cond.fieldLink RX4 19 "Bothfaces$Side" "isBack" "Z", Cond.fieldLink RX4 9 "Bothfaces$Side" "letters" "[I", Cond.static yX5_spanOf, Cond.code yX5_spanOf cX5_spanOf 1 (some .int), Cond.instanceMethod yX3_goOn, Cond.selects RX3 yX3_goOn yX3_goOn, Cond.code yX3_goOn cX3_goOn 6 none, Cond.fieldLink RX3 15 "Bothfaces$Planner" "next" "[J", Cond.instanceMethod yX1_shows, Cond.initialized RX1, Cond.selects RX1 yX1_shows yX1_shows, Cond.code yX1_shows cX1_shows 3 (some .int), Cond.fieldLink RX1 9 "Bothfaces$Card" "threads" "[I", Cond.static yX5_holeOf, Cond.code yX5_holeOf cX5_holeOf 2 (some .int), Cond.methodLink RX5 125 yX5_standAfter]
def wsX5_canPlan_r4 : List Cond := [Cond.static yX5_standAfter, Cond.code yX5_standAfter cX5_standAfter 2 (some .int), Cond.methodLink RX3 31 yX3_leastInto, Cond.instanceMethod yX3_leastInto, Cond.selects RX3 yX3_leastInto yX3_leastInto, Cond.code yX3_leastInto cX3_leastInto 12 (some .long), Cond.constantLong RX3 45 (1099511627776), Cond.methodLink RX3 47 Lib.MathLoose.min_long.x, Cond.static Lib.MathLoose.min_long.x, Cond.initialized "java/lang/Math", Cond.code Lib.MathLoose.min_long.x Lib.MathLoose.min_long.code 4 (some .long), Cond.static yX5_bitOfTurn, Cond.code yX5_bitOfTurn cX5_bitOfTurn 1 (some .long), Cond.instanceMethod yX3_best, Cond.selects RX3 yX3_best yX3_best, Cond.code yX3_best cX3_best 4 (some .long)]
def wsX5_canPlan : List Cond := .code yX5_canPlan cX5_canPlan 3 (some .boolean) :: ((wsX5_canPlan_r1 ++ (wsX5_canPlan_r2 ++ (wsX5_canPlan_r3 ++ wsX5_canPlan_r4))) ++ wsX50 ++ wsX10 ++ wsX30 ++ wsX40 ++ (vx_atS RX5 268 "java/lang/IndexOutOfBoundsException" ["java/lang/RuntimeException", "java/lang/Exception"]).filter goodWord ++ (vx_atS RX5 71 "java/lang/IllegalArgumentException" ["java/lang/RuntimeException", "java/lang/Exception"]).filter goodWord ++ (vx_atM "java/lang/ArrayIndexOutOfBoundsException" ["java/lang/IndexOutOfBoundsException", "java/lang/RuntimeException", "java/lang/Exception"]).filter goodWord)
def wsX5_reversals_r1 : List Cond := [Cond.methodLink RX5 95 yX5_needCard, Cond.instanceMethod yX5_needCard, Cond.selects RX5 yX5_needCard yX5_needCard, Cond.initialized RX5, Cond.code yX5_needCard cX5_needCard 2 none, Cond.classLink RX5 264 "java/lang/IndexOutOfBoundsException", Cond.initialized "java/lang/IndexOutOfBoundsException", Cond.fieldLink RX5 83 "Bothfaces" "cardCount" "I", Cond.methodLink RX5 194 yX5_needLast, Cond.instanceMethod yX5_needLast, Cond.selects RX5 yX5_needLast yX5_needLast, Cond.code yX5_needLast cX5_needLast 2 none, Cond.classLink RX5 67 "java/lang/IllegalArgumentException", Cond.initialized "java/lang/IllegalArgumentException", Cond.fieldLink RX5 74 "Bothfaces" "pickCount" "I", Cond.methodLink RX5 197 yX5_bestPlan, Cond.instanceMethod yX5_bestPlan, Cond.selects RX5 yX5_bestPlan yX5_bestPlan, Cond.code yX5_bestPlan cX5_bestPlan 4 (some .long), Cond.fieldLink RX5 41 "Bothfaces" "planner" "LBothfaces$Planner;", Cond.fieldLink RX5 13 "Bothfaces" "cards" "[LBothfaces$Card;", Cond.instanceMethod yX3_begin, Cond.initialized RX3, Cond.selects RX3 yX3_begin yX3_begin]
def wsX5_reversals_r2 : List Cond := [Cond.code yX3_begin cX3_begin 2 none, Cond.fieldLink RX3 9 "Bothfaces$Planner" "reached" "[J", Cond.methodLink RX3 18 yX3_forget, Cond.static yX3_forget, Cond.code yX3_forget cX3_forget 2 none, Cond.constantLong RX3 43 (9223372036854775807), Cond.methodLink RX3 22 yX3_placeOf, Cond.static yX3_placeOf, Cond.code yX3_placeOf cX3_placeOf 2 (some .int), Cond.methodLink RX5 337 yX5_planOneMore, Cond.instanceMethod yX5_planOneMore, Cond.selects RX5 yX5_planOneMore yX5_planOneMore, Cond.code yX5_planOneMore cX5_planOneMore 3 none, Cond.methodLink RX5 186 yX5_orderedAt, Cond.instanceMethod yX5_orderedAt, Cond.selects RX5 yX5_orderedAt yX5_orderedAt, Cond.code yX5_orderedAt cX5_orderedAt 5 (some .int), Cond.fieldLink RX5 19 "Bothfaces" "drawn" "[[I", Cond.methodLink RX5 172 yX5_sideOf, Cond.instanceMethod yX5_sideOf, Cond.selects RX5 yX5_sideOf yX5_sideOf, Cond.code yX5_sideOf cX5_sideOf 2 (some (.object "Bothfaces$Side")), Cond.fieldLink RX5 35 "Bothfaces" "back" "LBothfaces$Side;", Cond.fieldLink RX5 31 "Bothfaces" "front" "LBothfaces$Side;"]
def wsX5_reversals_r3 : List Cond := [Cond.instanceMethod yX4_hasInk, Cond.initialized RX4, Cond.selects RX4 yX4_hasInk yX4_hasInk, Cond.code yX4_hasInk cX4_hasInk 10 (some .boolean), Cond.fieldLink RX4 32 "Bothfaces$Side" "firstCard" "I", Cond.fieldLink RX4 35 "Bothfaces$Side" "firstPick" "I", Cond.fieldLink RX4 29 "Bothfaces$Side" "letterCount" "I", Cond.fieldLink RX4 19 "Bothfaces$Side" "isBack" "Z", Cond.fieldLink RX4 9 "Bothfaces$Side" "letters" "[I", Cond.static yX5_spanOf, Cond.code yX5_spanOf cX5_spanOf 1 (some .int), Cond.instanceMethod yX3_goOn, Cond.selects RX3 yX3_goOn yX3_goOn, Cond.code yX3_goOn cX3_goOn 6 none, Cond.fieldLink RX3 15 "Bothfaces$Planner" "next" "[J", Cond.instanceMethod yX1_shows, Cond.initialized RX1, Cond.selects RX1 yX1_shows yX1_shows, Cond.code yX1_shows cX1_shows 3 (some .int), Cond.fieldLink RX1 9 "Bothfaces$Card" "threads" "[I", Cond.static yX5_holeOf, Cond.code yX5_holeOf cX5_holeOf 2 (some .int), Cond.methodLink RX5 125 yX5_standAfter, Cond.static yX5_standAfter]
def wsX5_reversals_r4 : List Cond := [Cond.code yX5_standAfter cX5_standAfter 2 (some .int), Cond.methodLink RX3 31 yX3_leastInto, Cond.instanceMethod yX3_leastInto, Cond.selects RX3 yX3_leastInto yX3_leastInto, Cond.code yX3_leastInto cX3_leastInto 12 (some .long), Cond.constantLong RX3 45 (1099511627776), Cond.methodLink RX3 47 Lib.MathLoose.min_long.x, Cond.static Lib.MathLoose.min_long.x, Cond.initialized "java/lang/Math", Cond.code Lib.MathLoose.min_long.x Lib.MathLoose.min_long.code 4 (some .long), Cond.static yX5_bitOfTurn, Cond.code yX5_bitOfTurn cX5_bitOfTurn 1 (some .long), Cond.instanceMethod yX3_best, Cond.selects RX3 yX3_best yX3_best, Cond.code yX3_best cX3_best 4 (some .long), Cond.methodLink RX5 203 yX5_needPlan, Cond.static yX5_needPlan, Cond.code yX5_needPlan cX5_needPlan 2 none, Cond.classLink RX5 207 "java/util/NoSuchElementException", Cond.initialized "java/util/NoSuchElementException", Cond.constantLong RX5 201 (9223372036854775807)]
def wsX5_reversals : List Cond := .code yX5_reversals cX5_reversals 5 (some .int) :: ((wsX5_reversals_r1 ++ (wsX5_reversals_r2 ++ (wsX5_reversals_r3 ++ wsX5_reversals_r4))) ++ wsX50 ++ wsX10 ++ wsX30 ++ wsX40 ++ (vx_atS RX5 268 "java/lang/IndexOutOfBoundsException" ["java/lang/RuntimeException", "java/lang/Exception"]).filter goodWord ++ (vx_atS RX5 71 "java/lang/IllegalArgumentException" ["java/lang/RuntimeException", "java/lang/Exception"]).filter goodWord ++ (vx_atM "java/lang/ArrayIndexOutOfBoundsException" ["java/lang/IndexOutOfBoundsException", "java/lang/RuntimeException", "java/lang/Exception"]).filter goodWord ++ (vx_atX RX5 211 "java/util/NoSuchElementException" ["java/lang/RuntimeException", "java/lang/Exception"]).filter goodWord)
def wsX5_planAt_r1 : List Cond := [Cond.classLink RX5 207 "java/util/NoSuchElementException", Cond.initialized "java/util/NoSuchElementException", Cond.fieldLink RX5 74 "Bothfaces" "pickCount" "I", Cond.methodLink RX5 95 yX5_needCard, Cond.instanceMethod yX5_needCard, Cond.selects RX5 yX5_needCard yX5_needCard, Cond.initialized RX5, Cond.code yX5_needCard cX5_needCard 2 none, Cond.classLink RX5 264 "java/lang/IndexOutOfBoundsException", Cond.initialized "java/lang/IndexOutOfBoundsException", Cond.fieldLink RX5 83 "Bothfaces" "cardCount" "I", Cond.methodLink RX5 194 yX5_needLast, Cond.instanceMethod yX5_needLast, Cond.selects RX5 yX5_needLast yX5_needLast, Cond.code yX5_needLast cX5_needLast 2 none, Cond.classLink RX5 67 "java/lang/IllegalArgumentException", Cond.initialized "java/lang/IllegalArgumentException", Cond.methodLink RX5 197 yX5_bestPlan, Cond.instanceMethod yX5_bestPlan, Cond.selects RX5 yX5_bestPlan yX5_bestPlan, Cond.code yX5_bestPlan cX5_bestPlan 4 (some .long), Cond.fieldLink RX5 41 "Bothfaces" "planner" "LBothfaces$Planner;", Cond.fieldLink RX5 13 "Bothfaces" "cards" "[LBothfaces$Card;", Cond.instanceMethod yX3_begin]
def wsX5_planAt_r2 : List Cond := [Cond.initialized RX3, Cond.selects RX3 yX3_begin yX3_begin, Cond.code yX3_begin cX3_begin 2 none, Cond.fieldLink RX3 9 "Bothfaces$Planner" "reached" "[J", Cond.methodLink RX3 18 yX3_forget, Cond.static yX3_forget, Cond.code yX3_forget cX3_forget 2 none, Cond.constantLong RX3 43 (9223372036854775807), Cond.methodLink RX3 22 yX3_placeOf, Cond.static yX3_placeOf, Cond.code yX3_placeOf cX3_placeOf 2 (some .int), Cond.methodLink RX5 337 yX5_planOneMore, Cond.instanceMethod yX5_planOneMore, Cond.selects RX5 yX5_planOneMore yX5_planOneMore, Cond.code yX5_planOneMore cX5_planOneMore 3 none, Cond.methodLink RX5 186 yX5_orderedAt, Cond.instanceMethod yX5_orderedAt, Cond.selects RX5 yX5_orderedAt yX5_orderedAt, Cond.code yX5_orderedAt cX5_orderedAt 5 (some .int), Cond.fieldLink RX5 19 "Bothfaces" "drawn" "[[I", Cond.methodLink RX5 172 yX5_sideOf, Cond.instanceMethod yX5_sideOf, Cond.selects RX5 yX5_sideOf yX5_sideOf, Cond.code yX5_sideOf cX5_sideOf 2 (some (.object "Bothfaces$Side"))]
def wsX5_planAt_r3 : List Cond := [Cond.fieldLink RX5 35 "Bothfaces" "back" "LBothfaces$Side;", Cond.fieldLink RX5 31 "Bothfaces" "front" "LBothfaces$Side;", Cond.instanceMethod yX4_hasInk, Cond.initialized RX4, Cond.selects RX4 yX4_hasInk yX4_hasInk, Cond.code yX4_hasInk cX4_hasInk 10 (some .boolean), Cond.fieldLink RX4 32 "Bothfaces$Side" "firstCard" "I", Cond.fieldLink RX4 35 "Bothfaces$Side" "firstPick" "I", Cond.fieldLink RX4 29 "Bothfaces$Side" "letterCount" "I", Cond.fieldLink RX4 19 "Bothfaces$Side" "isBack" "Z", Cond.fieldLink RX4 9 "Bothfaces$Side" "letters" "[I", Cond.static yX5_spanOf, Cond.code yX5_spanOf cX5_spanOf 1 (some .int), Cond.instanceMethod yX3_goOn, Cond.selects RX3 yX3_goOn yX3_goOn, Cond.code yX3_goOn cX3_goOn 6 none, Cond.fieldLink RX3 15 "Bothfaces$Planner" "next" "[J", Cond.instanceMethod yX1_shows, Cond.initialized RX1, Cond.selects RX1 yX1_shows yX1_shows, Cond.code yX1_shows cX1_shows 3 (some .int), Cond.fieldLink RX1 9 "Bothfaces$Card" "threads" "[I", Cond.static yX5_holeOf, Cond.code yX5_holeOf cX5_holeOf 2 (some .int)]
def wsX5_planAt_r4 : List Cond := [Cond.methodLink RX5 125 yX5_standAfter, Cond.static yX5_standAfter, Cond.code yX5_standAfter cX5_standAfter 2 (some .int), Cond.methodLink RX3 31 yX3_leastInto, Cond.instanceMethod yX3_leastInto, Cond.selects RX3 yX3_leastInto yX3_leastInto, Cond.code yX3_leastInto cX3_leastInto 12 (some .long), Cond.constantLong RX3 45 (1099511627776), Cond.methodLink RX3 47 Lib.MathLoose.min_long.x, Cond.static Lib.MathLoose.min_long.x, Cond.initialized "java/lang/Math", Cond.code Lib.MathLoose.min_long.x Lib.MathLoose.min_long.code 4 (some .long), Cond.static yX5_bitOfTurn, Cond.code yX5_bitOfTurn cX5_bitOfTurn 1 (some .long), Cond.instanceMethod yX3_best, Cond.selects RX3 yX3_best yX3_best, Cond.code yX3_best cX3_best 4 (some .long), Cond.methodLink RX5 203 yX5_needPlan, Cond.static yX5_needPlan, Cond.code yX5_needPlan cX5_needPlan 2 none, Cond.constantLong RX5 201 (9223372036854775807), Cond.methodLink RX5 212 yX5_goesForward, Cond.static yX5_goesForward, Cond.code yX5_goesForward cX5_goesForward 3 (some .boolean)]
def wsX5_planAt_r5 : List Cond := [Cond.methodLink RX5 317 yX5_bitOfTurn]
def wsX5_planAt : List Cond := .code yX5_planAt cX5_planAt 6 (some .char) :: ((wsX5_planAt_r1 ++ (wsX5_planAt_r2 ++ (wsX5_planAt_r3 ++ (wsX5_planAt_r4 ++ wsX5_planAt_r5)))) ++ wsX50 ++ wsX10 ++ wsX30 ++ wsX40 ++ (vx_atX RX5 211 "java/util/NoSuchElementException" ["java/lang/RuntimeException", "java/lang/Exception"]).filter goodWord ++ (vx_atS RX5 268 "java/lang/IndexOutOfBoundsException" ["java/lang/RuntimeException", "java/lang/Exception"]).filter goodWord ++ (vx_atS RX5 71 "java/lang/IllegalArgumentException" ["java/lang/RuntimeException", "java/lang/Exception"]).filter goodWord ++ (vx_atM "java/lang/ArrayIndexOutOfBoundsException" ["java/lang/IndexOutOfBoundsException", "java/lang/RuntimeException", "java/lang/Exception"]).filter goodWord)
def wsX5_weave_r1 : List Cond := [Cond.classLink RX5 78 "java/lang/UnsupportedOperationException", Cond.initialized "java/lang/UnsupportedOperationException", Cond.fieldLink RX5 83 "Bothfaces" "cardCount" "I", Cond.constantLong RX5 201 (9223372036854775807), Cond.fieldLink RX5 13 "Bothfaces" "cards" "[LBothfaces$Card;", Cond.methodLink RX5 194 yX5_needLast, Cond.instanceMethod yX5_needLast, Cond.selects RX5 yX5_needLast yX5_needLast, Cond.initialized RX5, Cond.code yX5_needLast cX5_needLast 2 none, Cond.classLink RX5 67 "java/lang/IllegalArgumentException", Cond.initialized "java/lang/IllegalArgumentException", Cond.fieldLink RX5 74 "Bothfaces" "pickCount" "I", Cond.methodLink RX5 197 yX5_bestPlan, Cond.instanceMethod yX5_bestPlan, Cond.selects RX5 yX5_bestPlan yX5_bestPlan, Cond.code yX5_bestPlan cX5_bestPlan 4 (some .long), Cond.fieldLink RX5 41 "Bothfaces" "planner" "LBothfaces$Planner;", Cond.instanceMethod yX3_begin, Cond.initialized RX3, Cond.selects RX3 yX3_begin yX3_begin, Cond.code yX3_begin cX3_begin 2 none, Cond.fieldLink RX3 9 "Bothfaces$Planner" "reached" "[J", Cond.methodLink RX3 18 yX3_forget]
def wsX5_weave_r2 : List Cond := [Cond.static yX3_forget, Cond.code yX3_forget cX3_forget 2 none, Cond.constantLong RX3 43 (9223372036854775807), Cond.methodLink RX3 22 yX3_placeOf, Cond.static yX3_placeOf, Cond.code yX3_placeOf cX3_placeOf 2 (some .int), Cond.methodLink RX5 337 yX5_planOneMore, Cond.instanceMethod yX5_planOneMore, Cond.selects RX5 yX5_planOneMore yX5_planOneMore, Cond.code yX5_planOneMore cX5_planOneMore 3 none, Cond.methodLink RX5 186 yX5_orderedAt, Cond.instanceMethod yX5_orderedAt, Cond.selects RX5 yX5_orderedAt yX5_orderedAt, Cond.code yX5_orderedAt cX5_orderedAt 5 (some .int), Cond.fieldLink RX5 19 "Bothfaces" "drawn" "[[I", Cond.methodLink RX5 172 yX5_sideOf, Cond.instanceMethod yX5_sideOf, Cond.selects RX5 yX5_sideOf yX5_sideOf, Cond.code yX5_sideOf cX5_sideOf 2 (some (.object "Bothfaces$Side")), Cond.fieldLink RX5 35 "Bothfaces" "back" "LBothfaces$Side;", Cond.fieldLink RX5 31 "Bothfaces" "front" "LBothfaces$Side;", Cond.instanceMethod yX4_hasInk, Cond.initialized RX4, Cond.selects RX4 yX4_hasInk yX4_hasInk]
def wsX5_weave_r3 : List Cond := [Cond.code yX4_hasInk cX4_hasInk 10 (some .boolean), Cond.fieldLink RX4 32 "Bothfaces$Side" "firstCard" "I", Cond.fieldLink RX4 35 "Bothfaces$Side" "firstPick" "I", Cond.fieldLink RX4 29 "Bothfaces$Side" "letterCount" "I", Cond.fieldLink RX4 19 "Bothfaces$Side" "isBack" "Z", Cond.fieldLink RX4 9 "Bothfaces$Side" "letters" "[I", Cond.static yX5_spanOf, Cond.code yX5_spanOf cX5_spanOf 1 (some .int), Cond.instanceMethod yX3_goOn, Cond.selects RX3 yX3_goOn yX3_goOn, Cond.code yX3_goOn cX3_goOn 6 none, Cond.fieldLink RX3 15 "Bothfaces$Planner" "next" "[J", Cond.instanceMethod yX1_shows, Cond.initialized RX1, Cond.selects RX1 yX1_shows yX1_shows, Cond.code yX1_shows cX1_shows 3 (some .int), Cond.fieldLink RX1 9 "Bothfaces$Card" "threads" "[I", Cond.static yX5_holeOf, Cond.code yX5_holeOf cX5_holeOf 2 (some .int), Cond.methodLink RX5 125 yX5_standAfter, Cond.static yX5_standAfter, Cond.code yX5_standAfter cX5_standAfter 2 (some .int), Cond.methodLink RX3 31 yX3_leastInto, Cond.instanceMethod yX3_leastInto]
def wsX5_weave_r4 : List Cond := [Cond.selects RX3 yX3_leastInto yX3_leastInto, Cond.code yX3_leastInto cX3_leastInto 12 (some .long), Cond.constantLong RX3 45 (1099511627776), Cond.methodLink RX3 47 Lib.MathLoose.min_long.x, Cond.static Lib.MathLoose.min_long.x, Cond.initialized "java/lang/Math", Cond.code Lib.MathLoose.min_long.x Lib.MathLoose.min_long.code 4 (some .long), Cond.static yX5_bitOfTurn, Cond.code yX5_bitOfTurn cX5_bitOfTurn 1 (some .long), Cond.instanceMethod yX3_best, Cond.selects RX3 yX3_best yX3_best, Cond.code yX3_best cX3_best 4 (some .long), Cond.methodLink RX5 212 yX5_goesForward, Cond.static yX5_goesForward, Cond.code yX5_goesForward cX5_goesForward 3 (some .boolean), Cond.methodLink RX5 317 yX5_bitOfTurn, Cond.instanceMethod yX1_rotate, Cond.selects RX1 yX1_rotate yX1_rotate, Cond.code yX1_rotate cX1_rotate 2 none, Cond.fieldLink RX1 25 "Bothfaces$Card" "stand" "I", Cond.fieldLink RX1 33 "Bothfaces$Card" "twist" "I", Cond.fieldLink RX1 21 "Bothfaces$Card" "isS" "Z", Cond.methodLink RX5 132 yX5_putPickIn, Cond.instanceMethod yX5_putPickIn]
def wsX5_weave_r5 : List Cond := [Cond.selects RX5 yX5_putPickIn yX5_putPickIn, Cond.code yX5_putPickIn cX5_putPickIn 2 none, Cond.instanceMethod yX1_keepAs, Cond.selects RX1 yX1_keepAs yX1_keepAs, Cond.code yX1_keepAs cX1_keepAs 2 none, Cond.fieldLink RX1 15 "Bothfaces$Card" "stands" "[I", Cond.fieldLink RX1 18 "Bothfaces$Card" "twists" "[I"]
def wsX5_weave : List Cond := .code yX5_weave cX5_weave 6 (some .int) :: ((wsX5_weave_r1 ++ (wsX5_weave_r2 ++ (wsX5_weave_r3 ++ (wsX5_weave_r4 ++ wsX5_weave_r5)))) ++ wsX50 ++ wsX10 ++ wsX30 ++ wsX40 ++ (vx_atS RX5 82 "java/lang/UnsupportedOperationException" ["java/lang/RuntimeException", "java/lang/Exception"]).filter goodWord ++ (vx_atS RX5 71 "java/lang/IllegalArgumentException" ["java/lang/RuntimeException", "java/lang/Exception"]).filter goodWord ++ (vx_atM "java/lang/ArrayIndexOutOfBoundsException" ["java/lang/IndexOutOfBoundsException", "java/lang/RuntimeException", "java/lang/Exception"]).filter goodWord)
def wsX5_faults_r1 : List Cond := [Cond.fieldLink RX5 83 "Bothfaces" "cardCount" "I", Cond.methodLink RX5 216 yX5_faultsOn, Cond.instanceMethod yX5_faultsOn, Cond.selects RX5 yX5_faultsOn yX5_faultsOn, Cond.initialized RX5, Cond.code yX5_faultsOn cX5_faultsOn 5 (some .int), Cond.fieldLink RX5 74 "Bothfaces" "pickCount" "I", Cond.methodLink RX5 349 yX5_isFault, Cond.instanceMethod yX5_isFault, Cond.selects RX5 yX5_isFault yX5_isFault, Cond.code yX5_isFault cX5_isFault 4 (some .boolean), Cond.fieldLink RX5 13 "Bothfaces" "cards" "[LBothfaces$Card;", Cond.instanceMethod yX1_shownIn, Cond.initialized RX1, Cond.selects RX1 yX1_shownIn yX1_shownIn, Cond.code yX1_shownIn cX1_shownIn 3 (some .int), Cond.fieldLink RX1 15 "Bothfaces$Card" "stands" "[I", Cond.methodLink RX1 40 yX1_shows, Cond.instanceMethod yX1_shows, Cond.selects RX1 yX1_shows yX1_shows, Cond.code yX1_shows cX1_shows 3 (some .int), Cond.fieldLink RX1 9 "Bothfaces$Card" "threads" "[I", Cond.static yX5_holeOf, Cond.code yX5_holeOf cX5_holeOf 2 (some .int)]
def wsX5_faults_r2 : List Cond := [Cond.methodLink RX5 125 yX5_standAfter, Cond.static yX5_standAfter, Cond.code yX5_standAfter cX5_standAfter 2 (some .int), Cond.methodLink RX5 186 yX5_orderedAt, Cond.instanceMethod yX5_orderedAt, Cond.selects RX5 yX5_orderedAt yX5_orderedAt, Cond.code yX5_orderedAt cX5_orderedAt 5 (some .int), Cond.fieldLink RX5 19 "Bothfaces" "drawn" "[[I", Cond.methodLink RX5 172 yX5_sideOf, Cond.instanceMethod yX5_sideOf, Cond.selects RX5 yX5_sideOf yX5_sideOf, Cond.code yX5_sideOf cX5_sideOf 2 (some (.object "Bothfaces$Side")), Cond.fieldLink RX5 35 "Bothfaces" "back" "LBothfaces$Side;", Cond.fieldLink RX5 31 "Bothfaces" "front" "LBothfaces$Side;", Cond.instanceMethod yX4_hasInk, Cond.initialized RX4, Cond.selects RX4 yX4_hasInk yX4_hasInk, Cond.code yX4_hasInk cX4_hasInk 10 (some .boolean), Cond.fieldLink RX4 32 "Bothfaces$Side" "firstCard" "I", Cond.fieldLink RX4 35 "Bothfaces$Side" "firstPick" "I", Cond.fieldLink RX4 29 "Bothfaces$Side" "letterCount" "I", Cond.fieldLink RX4 19 "Bothfaces$Side" "isBack" "Z", Cond.fieldLink RX4 9 "Bothfaces$Side" "letters" "[I", Cond.static yX5_spanOf]
def wsX5_faults_r3 : List Cond := [Cond.code yX5_spanOf cX5_spanOf 1 (some .int)]
def wsX5_faults : List Cond := .code yX5_faults cX5_faults 4 (some .int) :: ((wsX5_faults_r1 ++ (wsX5_faults_r2 ++ wsX5_faults_r3)) ++ wsX50 ++ wsX10 ++ wsX40 ++ (vx_atM "java/lang/ArrayIndexOutOfBoundsException" ["java/lang/IndexOutOfBoundsException", "java/lang/RuntimeException", "java/lang/Exception"]).filter goodWord)
def wsX5_faultsOf_r1 : List Cond := [Cond.methodLink RX5 95 yX5_needCard, Cond.instanceMethod yX5_needCard, Cond.selects RX5 yX5_needCard yX5_needCard, Cond.initialized RX5, Cond.code yX5_needCard cX5_needCard 2 none, Cond.classLink RX5 264 "java/lang/IndexOutOfBoundsException", Cond.initialized "java/lang/IndexOutOfBoundsException", Cond.fieldLink RX5 83 "Bothfaces" "cardCount" "I", Cond.methodLink RX5 216 yX5_faultsOn, Cond.instanceMethod yX5_faultsOn, Cond.selects RX5 yX5_faultsOn yX5_faultsOn, Cond.code yX5_faultsOn cX5_faultsOn 5 (some .int), Cond.fieldLink RX5 74 "Bothfaces" "pickCount" "I", Cond.methodLink RX5 349 yX5_isFault, Cond.instanceMethod yX5_isFault, Cond.selects RX5 yX5_isFault yX5_isFault, Cond.code yX5_isFault cX5_isFault 4 (some .boolean), Cond.fieldLink RX5 13 "Bothfaces" "cards" "[LBothfaces$Card;", Cond.instanceMethod yX1_shownIn, Cond.initialized RX1, Cond.selects RX1 yX1_shownIn yX1_shownIn, Cond.code yX1_shownIn cX1_shownIn 3 (some .int), Cond.fieldLink RX1 15 "Bothfaces$Card" "stands" "[I", Cond.methodLink RX1 40 yX1_shows]
def wsX5_faultsOf_r2 : List Cond := [Cond.instanceMethod yX1_shows, Cond.selects RX1 yX1_shows yX1_shows, Cond.code yX1_shows cX1_shows 3 (some .int), Cond.fieldLink RX1 9 "Bothfaces$Card" "threads" "[I", Cond.static yX5_holeOf, Cond.code yX5_holeOf cX5_holeOf 2 (some .int), Cond.methodLink RX5 125 yX5_standAfter, Cond.static yX5_standAfter, Cond.code yX5_standAfter cX5_standAfter 2 (some .int), Cond.methodLink RX5 186 yX5_orderedAt, Cond.instanceMethod yX5_orderedAt, Cond.selects RX5 yX5_orderedAt yX5_orderedAt, Cond.code yX5_orderedAt cX5_orderedAt 5 (some .int), Cond.fieldLink RX5 19 "Bothfaces" "drawn" "[[I", Cond.methodLink RX5 172 yX5_sideOf, Cond.instanceMethod yX5_sideOf, Cond.selects RX5 yX5_sideOf yX5_sideOf, Cond.code yX5_sideOf cX5_sideOf 2 (some (.object "Bothfaces$Side")), Cond.fieldLink RX5 35 "Bothfaces" "back" "LBothfaces$Side;", Cond.fieldLink RX5 31 "Bothfaces" "front" "LBothfaces$Side;", Cond.instanceMethod yX4_hasInk, Cond.initialized RX4, Cond.selects RX4 yX4_hasInk yX4_hasInk, Cond.code yX4_hasInk cX4_hasInk 10 (some .boolean)]
def wsX5_faultsOf_r3 : List Cond := [Cond.fieldLink RX4 32 "Bothfaces$Side" "firstCard" "I", Cond.fieldLink RX4 35 "Bothfaces$Side" "firstPick" "I", Cond.fieldLink RX4 29 "Bothfaces$Side" "letterCount" "I", Cond.fieldLink RX4 19 "Bothfaces$Side" "isBack" "Z", Cond.fieldLink RX4 9 "Bothfaces$Side" "letters" "[I", Cond.static yX5_spanOf, Cond.code yX5_spanOf cX5_spanOf 1 (some .int)]
def wsX5_faultsOf : List Cond := .code yX5_faultsOf cX5_faultsOf 2 (some .int) :: ((wsX5_faultsOf_r1 ++ (wsX5_faultsOf_r2 ++ wsX5_faultsOf_r3)) ++ wsX50 ++ wsX10 ++ wsX40 ++ (vx_atS RX5 268 "java/lang/IndexOutOfBoundsException" ["java/lang/RuntimeException", "java/lang/Exception"]).filter goodWord ++ (vx_atM "java/lang/ArrayIndexOutOfBoundsException" ["java/lang/IndexOutOfBoundsException", "java/lang/RuntimeException", "java/lang/Exception"]).filter goodWord)
def wsX5_firstFault_r1 : List Cond := [Cond.classLink RX5 207 "java/util/NoSuchElementException", Cond.initialized "java/util/NoSuchElementException", Cond.fieldLink RX5 74 "Bothfaces" "pickCount" "I", Cond.fieldLink RX5 83 "Bothfaces" "cardCount" "I", Cond.methodLink RX5 219 yX5_isRight, Cond.instanceMethod yX5_isRight, Cond.selects RX5 yX5_isRight yX5_isRight, Cond.initialized RX5, Cond.code yX5_isRight cX5_isRight 3 (some .boolean), Cond.methodLink RX5 349 yX5_isFault, Cond.instanceMethod yX5_isFault, Cond.selects RX5 yX5_isFault yX5_isFault, Cond.code yX5_isFault cX5_isFault 4 (some .boolean), Cond.fieldLink RX5 13 "Bothfaces" "cards" "[LBothfaces$Card;", Cond.instanceMethod yX1_shownIn, Cond.initialized RX1, Cond.selects RX1 yX1_shownIn yX1_shownIn, Cond.code yX1_shownIn cX1_shownIn 3 (some .int), Cond.fieldLink RX1 15 "Bothfaces$Card" "stands" "[I", Cond.methodLink RX1 40 yX1_shows, Cond.instanceMethod yX1_shows, Cond.selects RX1 yX1_shows yX1_shows, Cond.code yX1_shows cX1_shows 3 (some .int), Cond.fieldLink RX1 9 "Bothfaces$Card" "threads" "[I"]
def wsX5_firstFault_r2 : List Cond := [Cond.static yX5_holeOf, Cond.code yX5_holeOf cX5_holeOf 2 (some .int), Cond.methodLink RX5 125 yX5_standAfter, Cond.static yX5_standAfter, Cond.code yX5_standAfter cX5_standAfter 2 (some .int), Cond.methodLink RX5 186 yX5_orderedAt, Cond.instanceMethod yX5_orderedAt, Cond.selects RX5 yX5_orderedAt yX5_orderedAt, Cond.code yX5_orderedAt cX5_orderedAt 5 (some .int), Cond.fieldLink RX5 19 "Bothfaces" "drawn" "[[I", Cond.methodLink RX5 172 yX5_sideOf, Cond.instanceMethod yX5_sideOf, Cond.selects RX5 yX5_sideOf yX5_sideOf, Cond.code yX5_sideOf cX5_sideOf 2 (some (.object "Bothfaces$Side")), Cond.fieldLink RX5 35 "Bothfaces" "back" "LBothfaces$Side;", Cond.fieldLink RX5 31 "Bothfaces" "front" "LBothfaces$Side;", Cond.instanceMethod yX4_hasInk, Cond.initialized RX4, Cond.selects RX4 yX4_hasInk yX4_hasInk, Cond.code yX4_hasInk cX4_hasInk 10 (some .boolean), Cond.fieldLink RX4 32 "Bothfaces$Side" "firstCard" "I", Cond.fieldLink RX4 35 "Bothfaces$Side" "firstPick" "I", Cond.fieldLink RX4 29 "Bothfaces$Side" "letterCount" "I", Cond.fieldLink RX4 19 "Bothfaces$Side" "isBack" "Z"]
def wsX5_firstFault_r3 : List Cond := [Cond.fieldLink RX4 9 "Bothfaces$Side" "letters" "[I", Cond.static yX5_spanOf, Cond.code yX5_spanOf cX5_spanOf 1 (some .int)]
def wsX5_firstFault : List Cond := .code yX5_firstFault cX5_firstFault 3 (some .int) :: ((wsX5_firstFault_r1 ++ (wsX5_firstFault_r2 ++ wsX5_firstFault_r3)) ++ wsX50 ++ wsX10 ++ wsX40 ++ (vx_atX RX5 211 "java/util/NoSuchElementException" ["java/lang/RuntimeException", "java/lang/Exception"]).filter goodWord ++ (vx_atM "java/lang/ArrayIndexOutOfBoundsException" ["java/lang/IndexOutOfBoundsException", "java/lang/RuntimeException", "java/lang/Exception"]).filter goodWord)
def wsX5_suspect_r1 : List Cond := [Cond.classLink RX5 207 "java/util/NoSuchElementException", Cond.initialized "java/util/NoSuchElementException", Cond.fieldLink RX5 83 "Bothfaces" "cardCount" "I", Cond.methodLink RX5 216 yX5_faultsOn, Cond.instanceMethod yX5_faultsOn, Cond.selects RX5 yX5_faultsOn yX5_faultsOn, Cond.initialized RX5, Cond.code yX5_faultsOn cX5_faultsOn 5 (some .int), Cond.fieldLink RX5 74 "Bothfaces" "pickCount" "I", Cond.methodLink RX5 349 yX5_isFault, Cond.instanceMethod yX5_isFault, Cond.selects RX5 yX5_isFault yX5_isFault, Cond.code yX5_isFault cX5_isFault 4 (some .boolean), Cond.fieldLink RX5 13 "Bothfaces" "cards" "[LBothfaces$Card;", Cond.instanceMethod yX1_shownIn, Cond.initialized RX1, Cond.selects RX1 yX1_shownIn yX1_shownIn, Cond.code yX1_shownIn cX1_shownIn 3 (some .int), Cond.fieldLink RX1 15 "Bothfaces$Card" "stands" "[I", Cond.methodLink RX1 40 yX1_shows, Cond.instanceMethod yX1_shows, Cond.selects RX1 yX1_shows yX1_shows, Cond.code yX1_shows cX1_shows 3 (some .int), Cond.fieldLink RX1 9 "Bothfaces$Card" "threads" "[I"]
def wsX5_suspect_r2 : List Cond := [Cond.static yX5_holeOf, Cond.code yX5_holeOf cX5_holeOf 2 (some .int), Cond.methodLink RX5 125 yX5_standAfter, Cond.static yX5_standAfter, Cond.code yX5_standAfter cX5_standAfter 2 (some .int), Cond.methodLink RX5 186 yX5_orderedAt, Cond.instanceMethod yX5_orderedAt, Cond.selects RX5 yX5_orderedAt yX5_orderedAt, Cond.code yX5_orderedAt cX5_orderedAt 5 (some .int), Cond.fieldLink RX5 19 "Bothfaces" "drawn" "[[I", Cond.methodLink RX5 172 yX5_sideOf, Cond.instanceMethod yX5_sideOf, Cond.selects RX5 yX5_sideOf yX5_sideOf, Cond.code yX5_sideOf cX5_sideOf 2 (some (.object "Bothfaces$Side")), Cond.fieldLink RX5 35 "Bothfaces" "back" "LBothfaces$Side;", Cond.fieldLink RX5 31 "Bothfaces" "front" "LBothfaces$Side;", Cond.instanceMethod yX4_hasInk, Cond.initialized RX4, Cond.selects RX4 yX4_hasInk yX4_hasInk, Cond.code yX4_hasInk cX4_hasInk 10 (some .boolean), Cond.fieldLink RX4 32 "Bothfaces$Side" "firstCard" "I", Cond.fieldLink RX4 35 "Bothfaces$Side" "firstPick" "I", Cond.fieldLink RX4 29 "Bothfaces$Side" "letterCount" "I", Cond.fieldLink RX4 19 "Bothfaces$Side" "isBack" "Z"]
def wsX5_suspect_r3 : List Cond := [Cond.fieldLink RX4 9 "Bothfaces$Side" "letters" "[I", Cond.static yX5_spanOf, Cond.code yX5_spanOf cX5_spanOf 1 (some .int)]
def wsX5_suspect : List Cond := .code yX5_suspect cX5_suspect 5 (some .int) :: ((wsX5_suspect_r1 ++ (wsX5_suspect_r2 ++ wsX5_suspect_r3)) ++ wsX50 ++ wsX10 ++ wsX40 ++ (vx_atX RX5 211 "java/util/NoSuchElementException" ["java/lang/RuntimeException", "java/lang/Exception"]).filter goodWord ++ (vx_atM "java/lang/ArrayIndexOutOfBoundsException" ["java/lang/IndexOutOfBoundsException", "java/lang/RuntimeException", "java/lang/Exception"]).filter goodWord)
def wsX5_ways_r1 : List Cond := [Cond.classLink RX5 67 "java/lang/IllegalArgumentException", Cond.initialized "java/lang/IllegalArgumentException", Cond.fieldLink RX5 48 "Bothfaces" "mender" "LBothfaces$Mender;", Cond.fieldLink RX5 13 "Bothfaces" "cards" "[LBothfaces$Card;", Cond.methodLink RX5 95 yX5_needCard, Cond.instanceMethod yX5_needCard, Cond.selects RX5 yX5_needCard yX5_needCard, Cond.initialized RX5, Cond.code yX5_needCard cX5_needCard 2 none, Cond.classLink RX5 264 "java/lang/IndexOutOfBoundsException", Cond.initialized "java/lang/IndexOutOfBoundsException", Cond.fieldLink RX5 83 "Bothfaces" "cardCount" "I", Cond.methodLink RX5 140 yX5_needPick, Cond.instanceMethod yX5_needPick, Cond.selects RX5 yX5_needPick yX5_needPick, Cond.code yX5_needPick cX5_needPick 2 none, Cond.fieldLink RX5 74 "Bothfaces" "pickCount" "I", Cond.instanceMethod yX2_countWays, Cond.initialized RX2, Cond.selects RX2 yX2_countWays yX2_countWays, Cond.code yX2_countWays cX2_countWays 6 (some .long), Cond.fieldLink RX2 9 "Bothfaces$Mender" "counts" "[J", Cond.methodLink RX2 24 yX2_goOn, Cond.instanceMethod yX2_goOn]
def wsX5_ways_r2 : List Cond := [Cond.selects RX2 yX2_goOn yX2_goOn, Cond.code yX2_goOn cX2_goOn 2 none, Cond.fieldLink RX2 15 "Bothfaces$Mender" "next" "[J", Cond.static yX5_standAfter, Cond.code yX5_standAfter cX5_standAfter 2 (some .int), Cond.instanceMethod yX1_shownIn, Cond.initialized RX1, Cond.selects RX1 yX1_shownIn yX1_shownIn, Cond.code yX1_shownIn cX1_shownIn 3 (some .int), Cond.fieldLink RX1 15 "Bothfaces$Card" "stands" "[I", Cond.methodLink RX1 40 yX1_shows, Cond.instanceMethod yX1_shows, Cond.selects RX1 yX1_shows yX1_shows, Cond.code yX1_shows cX1_shows 3 (some .int), Cond.fieldLink RX1 9 "Bothfaces$Card" "threads" "[I", Cond.static yX5_holeOf, Cond.code yX5_holeOf cX5_holeOf 2 (some .int), Cond.methodLink RX5 125 yX5_standAfter, Cond.methodLink RX2 31 yX2_dropUnseen, Cond.instanceMethod yX2_dropUnseen, Cond.selects RX2 yX2_dropUnseen yX2_dropUnseen, Cond.code yX2_dropUnseen cX2_dropUnseen 4 none]
def wsX5_ways : List Cond := .code yX5_ways cX5_ways 5 (some .long) :: ((wsX5_ways_r1 ++ wsX5_ways_r2) ++ wsX50 ++ wsX20 ++ wsX10 ++ (vx_atS RX5 71 "java/lang/IllegalArgumentException" ["java/lang/RuntimeException", "java/lang/Exception"]).filter goodWord ++ (vx_atS RX5 268 "java/lang/IndexOutOfBoundsException" ["java/lang/RuntimeException", "java/lang/Exception"]).filter goodWord ++ (vx_atM "java/lang/ArrayIndexOutOfBoundsException" ["java/lang/IndexOutOfBoundsException", "java/lang/RuntimeException", "java/lang/Exception"]).filter goodWord)
def wsX5_yarnOf : List Cond := .code yX5_yarnOf cX5_yarnOf 5 (some .int) :: ([.fieldLink RX5 83 "Bothfaces" "cardCount" "I", .fieldLink RX5 13 "Bothfaces" "cards" "[LBothfaces$Card;", .fieldLink RX5 74 "Bothfaces" "pickCount" "I", .instanceMethod yX1_lengthOf, .initialized RX1, .selects RX1 yX1_lengthOf yX1_lengthOf, .code yX1_lengthOf cX1_lengthOf 5 (some .int), .methodLink RX1 43 yX1_isOnAFace, .instanceMethod yX1_isOnAFace, .selects RX1 yX1_isOnAFace yX1_isOnAFace, .code yX1_isOnAFace cX1_isOnAFace 3 (some .boolean), .fieldLink RX1 15 "Bothfaces$Card" "stands" "[I", .static yX5_holeOf, .initialized RX5, .code yX5_holeOf cX5_holeOf 2 (some .int), .methodLink RX5 125 yX5_standAfter, .static yX5_standAfter, .code yX5_standAfter cX5_standAfter 2 (some .int)] ++ wsX50 ++ wsX10 ++ (vx_atM "java/lang/ArrayIndexOutOfBoundsException" ["java/lang/IndexOutOfBoundsException", "java/lang/RuntimeException", "java/lang/Exception"]).filter goodWord)
def wsX5_yarn_r1 : List Cond := [Cond.methodLink RX5 63 yX5_needColour, Cond.static yX5_needColour, Cond.initialized RX5, Cond.code yX5_needColour cX5_needColour 1 none, Cond.classLink RX5 67 "java/lang/IllegalArgumentException", Cond.initialized "java/lang/IllegalArgumentException", Cond.methodLink RX5 231 yX5_yarnOf, Cond.instanceMethod yX5_yarnOf, Cond.selects RX5 yX5_yarnOf yX5_yarnOf, Cond.code yX5_yarnOf cX5_yarnOf 5 (some .int), Cond.fieldLink RX5 83 "Bothfaces" "cardCount" "I", Cond.fieldLink RX5 13 "Bothfaces" "cards" "[LBothfaces$Card;", Cond.fieldLink RX5 74 "Bothfaces" "pickCount" "I", Cond.instanceMethod yX1_lengthOf, Cond.initialized RX1, Cond.selects RX1 yX1_lengthOf yX1_lengthOf, Cond.code yX1_lengthOf cX1_lengthOf 5 (some .int), Cond.methodLink RX1 43 yX1_isOnAFace, Cond.instanceMethod yX1_isOnAFace, Cond.selects RX1 yX1_isOnAFace yX1_isOnAFace, Cond.code yX1_isOnAFace cX1_isOnAFace 3 (some .boolean), Cond.fieldLink RX1 15 "Bothfaces$Card" "stands" "[I", Cond.static yX5_holeOf, Cond.code yX5_holeOf cX5_holeOf 2 (some .int)]
def wsX5_yarn_r2 : List Cond := [Cond.methodLink RX5 125 yX5_standAfter, Cond.static yX5_standAfter, Cond.code yX5_standAfter cX5_standAfter 2 (some .int)]
def wsX5_yarn : List Cond := .code yX5_yarn cX5_yarn 2 (some .int) :: ((wsX5_yarn_r1 ++ wsX5_yarn_r2) ++ wsX50 ++ wsX10 ++ (vx_atS RX5 71 "java/lang/IllegalArgumentException" ["java/lang/RuntimeException", "java/lang/Exception"]).filter goodWord ++ (vx_atM "java/lang/ArrayIndexOutOfBoundsException" ["java/lang/IndexOutOfBoundsException", "java/lang/RuntimeException", "java/lang/Exception"]).filter goodWord)
def wsX5_kinds : List Cond := .code yX5_kinds cX5_kinds 3 (some .int) :: ([.fieldLink RX5 83 "Bothfaces" "cardCount" "I", .methodLink RX5 234 yX5_isNewKind, .instanceMethod yX5_isNewKind, .selects RX5 yX5_isNewKind yX5_isNewKind, .initialized RX5, .code yX5_isNewKind cX5_isNewKind 3 (some .boolean), .fieldLink RX5 13 "Bothfaces" "cards" "[LBothfaces$Card;", .instanceMethod yX1_isOfKindOf, .initialized RX1, .selects RX1 yX1_isOfKindOf yX1_isOfKindOf, .code yX1_isOfKindOf cX1_isOfKindOf 3 (some .boolean), .fieldLink RX1 21 "Bothfaces$Card" "isS" "Z", .methodLink RX1 47 yX1_isLikeFrom, .instanceMethod yX1_isLikeFrom, .selects RX1 yX1_isLikeFrom yX1_isLikeFrom, .code yX1_isLikeFrom cX1_isLikeFrom 4 (some .boolean), .fieldLink RX1 9 "Bothfaces$Card" "threads" "[I", .static yX5_standAfter, .code yX5_standAfter cX5_standAfter 2 (some .int)] ++ wsX50 ++ wsX10 ++ (vx_atM "java/lang/ArrayIndexOutOfBoundsException" ["java/lang/IndexOutOfBoundsException", "java/lang/RuntimeException", "java/lang/Exception"]).filter goodWord)
def wsX5_weaver : List Cond := .code yX5_weaver cX5_weaver 2 (some .int) :: ([.classLink RX5 67 "java/lang/IllegalArgumentException", .initialized "java/lang/IllegalArgumentException", .classLink RX5 86 "java/lang/IllegalStateException", .initialized "java/lang/IllegalStateException", .fieldLink RX5 239 "Bothfaces" "weaverCount" "I", .fieldLink RX5 52 "Bothfaces" "rates" "[I"] ++ wsX50 ++ (vx_atS RX5 71 "java/lang/IllegalArgumentException" ["java/lang/RuntimeException", "java/lang/Exception"]).filter goodWord ++ (vx_atS RX5 90 "java/lang/IllegalStateException" ["java/lang/RuntimeException", "java/lang/Exception"]).filter goodWord ++ (vx_atM "java/lang/ArrayIndexOutOfBoundsException" ["java/lang/IndexOutOfBoundsException", "java/lang/RuntimeException", "java/lang/Exception"]).filter goodWord)
def wsX5_hand_r1 : List Cond := [Cond.classLink RX5 207 "java/util/NoSuchElementException", Cond.initialized "java/util/NoSuchElementException", Cond.fieldLink RX5 239 "Bothfaces" "weaverCount" "I", Cond.fieldLink RX5 74 "Bothfaces" "pickCount" "I", Cond.constant RX5 252 (2147483647), Cond.fieldLink RX5 52 "Bothfaces" "rates" "[I", Cond.methodLink RX5 113 Lib.Math.abs.name, Cond.static Lib.Math.abs.name, Cond.initialized "java/lang/Math", Cond.code Lib.Math.abs.name Lib.Math.abs.code 1 (some .int), Cond.methodLink RX5 246 yX5_faults, Cond.instanceMethod yX5_faults, Cond.selects RX5 yX5_faults yX5_faults, Cond.initialized RX5, Cond.code yX5_faults cX5_faults 4 (some .int), Cond.fieldLink RX5 83 "Bothfaces" "cardCount" "I", Cond.methodLink RX5 216 yX5_faultsOn, Cond.instanceMethod yX5_faultsOn, Cond.selects RX5 yX5_faultsOn yX5_faultsOn, Cond.code yX5_faultsOn cX5_faultsOn 5 (some .int), Cond.methodLink RX5 349 yX5_isFault, Cond.instanceMethod yX5_isFault, Cond.selects RX5 yX5_isFault yX5_isFault, Cond.code yX5_isFault cX5_isFault 4 (some .boolean)]
def wsX5_hand_r2 : List Cond := [Cond.fieldLink RX5 13 "Bothfaces" "cards" "[LBothfaces$Card;", Cond.instanceMethod yX1_shownIn, Cond.initialized RX1, Cond.selects RX1 yX1_shownIn yX1_shownIn, Cond.code yX1_shownIn cX1_shownIn 3 (some .int), Cond.fieldLink RX1 15 "Bothfaces$Card" "stands" "[I", Cond.methodLink RX1 40 yX1_shows, Cond.instanceMethod yX1_shows, Cond.selects RX1 yX1_shows yX1_shows, Cond.code yX1_shows cX1_shows 3 (some .int), Cond.fieldLink RX1 9 "Bothfaces$Card" "threads" "[I", Cond.static yX5_holeOf, Cond.code yX5_holeOf cX5_holeOf 2 (some .int), Cond.methodLink RX5 125 yX5_standAfter, Cond.static yX5_standAfter, Cond.code yX5_standAfter cX5_standAfter 2 (some .int), Cond.methodLink RX5 186 yX5_orderedAt, Cond.instanceMethod yX5_orderedAt, Cond.selects RX5 yX5_orderedAt yX5_orderedAt, Cond.code yX5_orderedAt cX5_orderedAt 5 (some .int), Cond.fieldLink RX5 19 "Bothfaces" "drawn" "[[I", Cond.methodLink RX5 172 yX5_sideOf, Cond.instanceMethod yX5_sideOf, Cond.selects RX5 yX5_sideOf yX5_sideOf]
def wsX5_hand_r3 : List Cond := [Cond.code yX5_sideOf cX5_sideOf 2 (some (.object "Bothfaces$Side")), Cond.fieldLink RX5 35 "Bothfaces" "back" "LBothfaces$Side;", Cond.fieldLink RX5 31 "Bothfaces" "front" "LBothfaces$Side;", Cond.instanceMethod yX4_hasInk, Cond.initialized RX4, Cond.selects RX4 yX4_hasInk yX4_hasInk, Cond.code yX4_hasInk cX4_hasInk 10 (some .boolean), Cond.fieldLink RX4 32 "Bothfaces$Side" "firstCard" "I", Cond.fieldLink RX4 35 "Bothfaces$Side" "firstPick" "I", Cond.fieldLink RX4 29 "Bothfaces$Side" "letterCount" "I", Cond.fieldLink RX4 19 "Bothfaces$Side" "isBack" "Z", Cond.fieldLink RX4 9 "Bothfaces$Side" "letters" "[I", Cond.static yX5_spanOf, Cond.code yX5_spanOf cX5_spanOf 1 (some .int)]
def wsX5_hand : List Cond := .code yX5_hand cX5_hand 6 (some .int) :: ((wsX5_hand_r1 ++ (wsX5_hand_r2 ++ wsX5_hand_r3)) ++ wsX50 ++ wsX10 ++ wsX40 ++ (vx_atX RX5 211 "java/util/NoSuchElementException" ["java/lang/RuntimeException", "java/lang/Exception"]).filter goodWord ++ (vx_atM "java/lang/ArrayIndexOutOfBoundsException" ["java/lang/IndexOutOfBoundsException", "java/lang/RuntimeException", "java/lang/Exception"]).filter goodWord)
def wsX5_order : List Cond := .code yX5_order cX5_order 4 (some .int) :: ([.classLink RX5 67 "java/lang/IllegalArgumentException", .initialized "java/lang/IllegalArgumentException", .classLink RX5 86 "java/lang/IllegalStateException", .initialized "java/lang/IllegalStateException", .fieldLink RX5 58 "Bothfaces" "book" "LBothfaces$Book;", .instanceMethod yX0_enter, .initialized RX0, .selects RX0 yX0_enter yX0_enter, .code yX0_enter cX0_enter 4 none, .fieldLink RX0 9 "Bothfaces$Book" "days" "[I", .fieldLink RX0 24 "Bothfaces$Book" "count" "I", .fieldLink RX0 15 "Bothfaces$Book" "prices" "[I", .fieldLink RX0 18 "Bothfaces$Book" "dues" "[I"] ++ wsX50 ++ wsX00 ++ (vx_atS RX5 71 "java/lang/IllegalArgumentException" ["java/lang/RuntimeException", "java/lang/Exception"]).filter goodWord ++ (vx_atS RX5 90 "java/lang/IllegalStateException" ["java/lang/RuntimeException", "java/lang/Exception"]).filter goodWord ++ (vx_atM "java/lang/ArrayIndexOutOfBoundsException" ["java/lang/IndexOutOfBoundsException", "java/lang/RuntimeException", "java/lang/Exception"]).filter goodWord)
def wsX5_readyOn : List Cond := .code yX5_readyOn cX5_readyOn 2 (some .int) :: ([.classLink RX5 264 "java/lang/IndexOutOfBoundsException", .initialized "java/lang/IndexOutOfBoundsException", .fieldLink RX5 58 "Bothfaces" "book" "LBothfaces$Book;", .instanceMethod yX0_toldDay, .initialized RX0, .selects RX0 yX0_toldDay yX0_toldDay, .code yX0_toldDay cX0_toldDay 4 (some .int), .fieldLink RX0 24 "Bothfaces$Book" "count" "I", .fieldLink RX0 18 "Bothfaces$Book" "dues" "[I", .fieldLink RX0 9 "Bothfaces$Book" "days" "[I"] ++ wsX50 ++ wsX00 ++ (vx_atS RX5 268 "java/lang/IndexOutOfBoundsException" ["java/lang/RuntimeException", "java/lang/Exception"]).filter goodWord ++ (vx_atM "java/lang/ArrayIndexOutOfBoundsException" ["java/lang/IndexOutOfBoundsException", "java/lang/RuntimeException", "java/lang/Exception"]).filter goodWord)
def wsX5_brings : List Cond := .code yX5_brings cX5_brings 3 (some .int) :: ([.fieldLink RX5 58 "Bothfaces" "book" "LBothfaces$Book;", .instanceMethod yX0_toldDay, .initialized RX0, .selects RX0 yX0_toldDay yX0_toldDay, .code yX0_toldDay cX0_toldDay 4 (some .int), .fieldLink RX0 24 "Bothfaces$Book" "count" "I", .fieldLink RX0 18 "Bothfaces$Book" "dues" "[I", .fieldLink RX0 9 "Bothfaces$Book" "days" "[I", .instanceMethod yX0_worth, .selects RX0 yX0_worth yX0_worth, .code yX0_worth cX0_worth 4 (some .int), .methodLink RX0 28 Lib.Math.max.name, .static Lib.Math.max.name, .initialized "java/lang/Math", .code Lib.Math.max.name Lib.Math.max.code 2 (some .int), .fieldLink RX0 15 "Bothfaces$Book" "prices" "[I"] ++ wsX50 ++ wsX00 ++ (vx_atM "java/lang/ArrayIndexOutOfBoundsException" ["java/lang/IndexOutOfBoundsException", "java/lang/RuntimeException", "java/lang/Exception"]).filter goodWord)
def wsX5_bringsMost : List Cond := .code yX5_bringsMost cX5_bringsMost 1 (some .int) :: ([.fieldLink RX5 58 "Bothfaces" "book" "LBothfaces$Book;", .instanceMethod yX0_mostWorth, .initialized RX0, .selects RX0 yX0_mostWorth yX0_mostWorth, .code yX0_mostWorth cX0_mostWorth 6 (some .int), .fieldLink RX0 24 "Bothfaces$Book" "count" "I", .fieldLink RX0 21 "Bothfaces$Book" "mostOf" "[I", .methodLink RX0 28 Lib.Math.max.name, .static Lib.Math.max.name, .initialized "java/lang/Math", .code Lib.Math.max.name Lib.Math.max.code 2 (some .int), .methodLink RX0 34 yX0_daysOf, .instanceMethod yX0_daysOf, .selects RX0 yX0_daysOf yX0_daysOf, .code yX0_daysOf cX0_daysOf 4 (some .int), .fieldLink RX0 9 "Bothfaces$Book" "days" "[I", .methodLink RX0 38 yX0_worth, .instanceMethod yX0_worth, .selects RX0 yX0_worth yX0_worth, .code yX0_worth cX0_worth 4 (some .int), .fieldLink RX0 18 "Bothfaces$Book" "dues" "[I", .fieldLink RX0 15 "Bothfaces$Book" "prices" "[I"] ++ wsX50 ++ wsX00 ++ (vx_atM "java/lang/ArrayIndexOutOfBoundsException" ["java/lang/IndexOutOfBoundsException", "java/lang/RuntimeException", "java/lang/Exception"]).filter goodWord)
def wsX5_checksum : List Cond := .code yX5_checksum cX5_checksum 5 (some .long) :: ([.constantLong RX5 279 (7), .fieldLink RX5 83 "Bothfaces" "cardCount" "I", .constantLong RX5 281 (31), .fieldLink RX5 13 "Bothfaces" "cards" "[LBothfaces$Card;", .fieldLink RX5 74 "Bothfaces" "pickCount" "I", .fieldLink RX5 58 "Bothfaces" "book" "LBothfaces$Book;", .instanceMethod yX1_shownIn, .initialized RX1, .selects RX1 yX1_shownIn yX1_shownIn, .code yX1_shownIn cX1_shownIn 3 (some .int), .fieldLink RX1 15 "Bothfaces$Card" "stands" "[I", .methodLink RX1 40 yX1_shows, .instanceMethod yX1_shows, .selects RX1 yX1_shows yX1_shows, .code yX1_shows cX1_shows 3 (some .int), .fieldLink RX1 9 "Bothfaces$Card" "threads" "[I", .static yX5_holeOf, .initialized RX5, .code yX5_holeOf cX5_holeOf 2 (some .int), .methodLink RX5 125 yX5_standAfter, .static yX5_standAfter, .code yX5_standAfter cX5_standAfter 2 (some .int)] ++ wsX50 ++ wsX10 ++ wsX00 ++ (vx_atM "java/lang/ArrayIndexOutOfBoundsException" ["java/lang/IndexOutOfBoundsException", "java/lang/RuntimeException", "java/lang/Exception"]).filter goodWord)
def wsX5_rightShare_r1 : List Cond := [Cond.classLink RX5 283 "java/lang/ArithmeticException", Cond.initialized "java/lang/ArithmeticException", Cond.fieldLink RX5 83 "Bothfaces" "cardCount" "I", Cond.fieldLink RX5 74 "Bothfaces" "pickCount" "I", Cond.methodLink RX5 219 yX5_isRight, Cond.instanceMethod yX5_isRight, Cond.selects RX5 yX5_isRight yX5_isRight, Cond.initialized RX5, Cond.code yX5_isRight cX5_isRight 3 (some .boolean), Cond.methodLink RX5 349 yX5_isFault, Cond.instanceMethod yX5_isFault, Cond.selects RX5 yX5_isFault yX5_isFault, Cond.code yX5_isFault cX5_isFault 4 (some .boolean), Cond.fieldLink RX5 13 "Bothfaces" "cards" "[LBothfaces$Card;", Cond.instanceMethod yX1_shownIn, Cond.initialized RX1, Cond.selects RX1 yX1_shownIn yX1_shownIn, Cond.code yX1_shownIn cX1_shownIn 3 (some .int), Cond.fieldLink RX1 15 "Bothfaces$Card" "stands" "[I", Cond.methodLink RX1 40 yX1_shows, Cond.instanceMethod yX1_shows, Cond.selects RX1 yX1_shows yX1_shows, Cond.code yX1_shows cX1_shows 3 (some .int), Cond.fieldLink RX1 9 "Bothfaces$Card" "threads" "[I"]
def wsX5_rightShare_r2 : List Cond := [Cond.static yX5_holeOf, Cond.code yX5_holeOf cX5_holeOf 2 (some .int), Cond.methodLink RX5 125 yX5_standAfter, Cond.static yX5_standAfter, Cond.code yX5_standAfter cX5_standAfter 2 (some .int), Cond.methodLink RX5 186 yX5_orderedAt, Cond.instanceMethod yX5_orderedAt, Cond.selects RX5 yX5_orderedAt yX5_orderedAt, Cond.code yX5_orderedAt cX5_orderedAt 5 (some .int), Cond.fieldLink RX5 19 "Bothfaces" "drawn" "[[I", Cond.methodLink RX5 172 yX5_sideOf, Cond.instanceMethod yX5_sideOf, Cond.selects RX5 yX5_sideOf yX5_sideOf, Cond.code yX5_sideOf cX5_sideOf 2 (some (.object "Bothfaces$Side")), Cond.fieldLink RX5 35 "Bothfaces" "back" "LBothfaces$Side;", Cond.fieldLink RX5 31 "Bothfaces" "front" "LBothfaces$Side;", Cond.instanceMethod yX4_hasInk, Cond.initialized RX4, Cond.selects RX4 yX4_hasInk yX4_hasInk, Cond.code yX4_hasInk cX4_hasInk 10 (some .boolean), Cond.fieldLink RX4 32 "Bothfaces$Side" "firstCard" "I", Cond.fieldLink RX4 35 "Bothfaces$Side" "firstPick" "I", Cond.fieldLink RX4 29 "Bothfaces$Side" "letterCount" "I", Cond.fieldLink RX4 19 "Bothfaces$Side" "isBack" "Z"]
def wsX5_rightShare_r3 : List Cond := [Cond.fieldLink RX4 9 "Bothfaces$Side" "letters" "[I", Cond.static yX5_spanOf, Cond.code yX5_spanOf cX5_spanOf 1 (some .int)]
def wsX5_rightShare : List Cond := .code yX5_rightShare cX5_rightShare 5 (some .float) :: ((wsX5_rightShare_r1 ++ (wsX5_rightShare_r2 ++ wsX5_rightShare_r3)) ++ wsX50 ++ wsX10 ++ wsX40 ++ (vx_atS RX5 287 "java/lang/ArithmeticException" ["java/lang/RuntimeException", "java/lang/Exception"]).filter goodWord ++ (vx_atM "java/lang/ArrayIndexOutOfBoundsException" ["java/lang/IndexOutOfBoundsException", "java/lang/RuntimeException", "java/lang/Exception"]).filter goodWord)
def wsX5_meanTwist : List Cond := .code yX5_meanTwist cX5_meanTwist 3 (some .double) :: ([.classLink RX5 283 "java/lang/ArithmeticException", .initialized "java/lang/ArithmeticException", .fieldLink RX5 83 "Bothfaces" "cardCount" "I", .fieldLink RX5 13 "Bothfaces" "cards" "[LBothfaces$Card;"] ++ wsX50 ++ wsX10 ++ (vx_atS RX5 287 "java/lang/ArithmeticException" ["java/lang/RuntimeException", "java/lang/Exception"]).filter goodWord)
def wsX5_yarnOfColours : List Cond := .code yX5_yarnOfColours cX5_yarnOfColours 3 (some .int) :: ([.methodLink RX5 231 yX5_yarnOf, .instanceMethod yX5_yarnOf, .selects RX5 yX5_yarnOf yX5_yarnOf, .initialized RX5, .code yX5_yarnOf cX5_yarnOf 5 (some .int), .fieldLink RX5 83 "Bothfaces" "cardCount" "I", .fieldLink RX5 13 "Bothfaces" "cards" "[LBothfaces$Card;", .fieldLink RX5 74 "Bothfaces" "pickCount" "I", .instanceMethod yX1_lengthOf, .initialized RX1, .selects RX1 yX1_lengthOf yX1_lengthOf, .code yX1_lengthOf cX1_lengthOf 5 (some .int), .methodLink RX1 43 yX1_isOnAFace, .instanceMethod yX1_isOnAFace, .selects RX1 yX1_isOnAFace yX1_isOnAFace, .code yX1_isOnAFace cX1_isOnAFace 3 (some .boolean), .fieldLink RX1 15 "Bothfaces$Card" "stands" "[I", .static yX5_holeOf, .code yX5_holeOf cX5_holeOf 2 (some .int), .methodLink RX5 125 yX5_standAfter, .static yX5_standAfter, .code yX5_standAfter cX5_standAfter 2 (some .int)] ++ wsX50 ++ wsX10 ++ (vx_atM "java/lang/ArrayIndexOutOfBoundsException" ["java/lang/IndexOutOfBoundsException", "java/lang/RuntimeException", "java/lang/Exception"]).filter goodWord)
def wsX5_yarnOfThreads : List Cond := .code yX5_yarnOfThreads cX5_yarnOfThreads 4 (some .int) :: ([.fieldLink RX5 83 "Bothfaces" "cardCount" "I", .fieldLink RX5 13 "Bothfaces" "cards" "[LBothfaces$Card;", .fieldLink RX5 74 "Bothfaces" "pickCount" "I", .instanceMethod yX1_lengthOf, .initialized RX1, .selects RX1 yX1_lengthOf yX1_lengthOf, .code yX1_lengthOf cX1_lengthOf 5 (some .int), .methodLink RX1 43 yX1_isOnAFace, .instanceMethod yX1_isOnAFace, .selects RX1 yX1_isOnAFace yX1_isOnAFace, .code yX1_isOnAFace cX1_isOnAFace 3 (some .boolean), .fieldLink RX1 15 "Bothfaces$Card" "stands" "[I", .static yX5_holeOf, .initialized RX5, .code yX5_holeOf cX5_holeOf 2 (some .int), .methodLink RX5 125 yX5_standAfter, .static yX5_standAfter, .code yX5_standAfter cX5_standAfter 2 (some .int)] ++ wsX50 ++ wsX10 ++ (vx_atM "java/lang/ArrayIndexOutOfBoundsException" ["java/lang/IndexOutOfBoundsException", "java/lang/RuntimeException", "java/lang/Exception"]).filter goodWord)
def wsX5_isSound_r1 : List Cond := [Cond.fieldLink RX5 83 "Bothfaces" "cardCount" "I", Cond.fieldLink RX5 13 "Bothfaces" "cards" "[LBothfaces$Card;", Cond.methodLink RX5 288 yX5_facesLieApart, Cond.instanceMethod yX5_facesLieApart, Cond.selects RX5 yX5_facesLieApart yX5_facesLieApart, Cond.initialized RX5, Cond.code yX5_facesLieApart cX5_facesLieApart 5 (some .boolean), Cond.fieldLink RX5 74 "Bothfaces" "pickCount" "I", Cond.methodLink RX5 113 Lib.Math.abs.name, Cond.static Lib.Math.abs.name, Cond.initialized "java/lang/Math", Cond.code Lib.Math.abs.name Lib.Math.abs.code 1 (some .int), Cond.methodLink RX5 362 yX5_holeOf, Cond.static yX5_holeOf, Cond.code yX5_holeOf cX5_holeOf 2 (some .int), Cond.methodLink RX5 125 yX5_standAfter, Cond.static yX5_standAfter, Cond.code yX5_standAfter cX5_standAfter 2 (some .int), Cond.methodLink RX5 292 yX5_plansHold, Cond.instanceMethod yX5_plansHold, Cond.selects RX5 yX5_plansHold yX5_plansHold, Cond.code yX5_plansHold cX5_plansHold 5 (some .boolean), Cond.fieldLink RX5 41 "Bothfaces" "planner" "LBothfaces$Planner;", Cond.constantLong RX5 201 (9223372036854775807)]
def wsX5_isSound_r2 : List Cond := [Cond.instanceMethod yX3_begin, Cond.initialized RX3, Cond.selects RX3 yX3_begin yX3_begin, Cond.code yX3_begin cX3_begin 2 none, Cond.fieldLink RX3 9 "Bothfaces$Planner" "reached" "[J", Cond.methodLink RX3 18 yX3_forget, Cond.static yX3_forget, Cond.code yX3_forget cX3_forget 2 none, Cond.constantLong RX3 43 (9223372036854775807), Cond.methodLink RX3 22 yX3_placeOf, Cond.static yX3_placeOf, Cond.code yX3_placeOf cX3_placeOf 2 (some .int), Cond.methodLink RX5 337 yX5_planOneMore, Cond.instanceMethod yX5_planOneMore, Cond.selects RX5 yX5_planOneMore yX5_planOneMore, Cond.code yX5_planOneMore cX5_planOneMore 3 none, Cond.methodLink RX5 186 yX5_orderedAt, Cond.instanceMethod yX5_orderedAt, Cond.selects RX5 yX5_orderedAt yX5_orderedAt, Cond.code yX5_orderedAt cX5_orderedAt 5 (some .int), Cond.fieldLink RX5 19 "Bothfaces" "drawn" "[[I", Cond.methodLink RX5 172 yX5_sideOf, Cond.instanceMethod yX5_sideOf, Cond.selects RX5 yX5_sideOf yX5_sideOf]
def wsX5_isSound_r3 : List Cond := [Cond.code yX5_sideOf cX5_sideOf 2 (some (.object "Bothfaces$Side")), Cond.fieldLink RX5 35 "Bothfaces" "back" "LBothfaces$Side;", Cond.fieldLink RX5 31 "Bothfaces" "front" "LBothfaces$Side;", Cond.instanceMethod yX4_hasInk, Cond.initialized RX4, Cond.selects RX4 yX4_hasInk yX4_hasInk, Cond.code yX4_hasInk cX4_hasInk 10 (some .boolean), Cond.fieldLink RX4 32 "Bothfaces$Side" "firstCard" "I", Cond.fieldLink RX4 35 "Bothfaces$Side" "firstPick" "I", Cond.fieldLink RX4 29 "Bothfaces$Side" "letterCount" "I", Cond.fieldLink RX4 19 "Bothfaces$Side" "isBack" "Z", Cond.fieldLink RX4 9 "Bothfaces$Side" "letters" "[I", Cond.static yX5_spanOf, Cond.code yX5_spanOf cX5_spanOf 1 (some .int), Cond.instanceMethod yX3_goOn, Cond.selects RX3 yX3_goOn yX3_goOn, Cond.code yX3_goOn cX3_goOn 6 none, Cond.fieldLink RX3 15 "Bothfaces$Planner" "next" "[J", Cond.instanceMethod yX1_shows, Cond.initialized RX1, Cond.selects RX1 yX1_shows yX1_shows, Cond.code yX1_shows cX1_shows 3 (some .int), Cond.fieldLink RX1 9 "Bothfaces$Card" "threads" "[I", Cond.methodLink RX3 31 yX3_leastInto]
def wsX5_isSound_r4 : List Cond := [Cond.instanceMethod yX3_leastInto, Cond.selects RX3 yX3_leastInto yX3_leastInto, Cond.code yX3_leastInto cX3_leastInto 12 (some .long), Cond.constantLong RX3 45 (1099511627776), Cond.methodLink RX3 47 Lib.MathLoose.min_long.x, Cond.static Lib.MathLoose.min_long.x, Cond.code Lib.MathLoose.min_long.x Lib.MathLoose.min_long.code 4 (some .long), Cond.static yX5_bitOfTurn, Cond.code yX5_bitOfTurn cX5_bitOfTurn 1 (some .long), Cond.instanceMethod yX3_best, Cond.selects RX3 yX3_best yX3_best, Cond.code yX3_best cX3_best 4 (some .long), Cond.methodLink RX5 365 yX5_wouldBeRight, Cond.instanceMethod yX5_wouldBeRight, Cond.selects RX5 yX5_wouldBeRight yX5_wouldBeRight, Cond.code yX5_wouldBeRight cX5_wouldBeRight 7 (some .boolean), Cond.methodLink RX5 212 yX5_goesForward, Cond.static yX5_goesForward, Cond.code yX5_goesForward cX5_goesForward 3 (some .boolean), Cond.methodLink RX5 317 yX5_bitOfTurn, Cond.methodLink RX5 295 yX5_yarnOfColours, Cond.instanceMethod yX5_yarnOfColours, Cond.selects RX5 yX5_yarnOfColours yX5_yarnOfColours, Cond.code yX5_yarnOfColours cX5_yarnOfColours 3 (some .int)]
def wsX5_isSound_r5 : List Cond := [Cond.methodLink RX5 231 yX5_yarnOf, Cond.instanceMethod yX5_yarnOf, Cond.selects RX5 yX5_yarnOf yX5_yarnOf, Cond.code yX5_yarnOf cX5_yarnOf 5 (some .int), Cond.instanceMethod yX1_lengthOf, Cond.selects RX1 yX1_lengthOf yX1_lengthOf, Cond.code yX1_lengthOf cX1_lengthOf 5 (some .int), Cond.methodLink RX1 43 yX1_isOnAFace, Cond.instanceMethod yX1_isOnAFace, Cond.selects RX1 yX1_isOnAFace yX1_isOnAFace, Cond.code yX1_isOnAFace cX1_isOnAFace 3 (some .boolean), Cond.fieldLink RX1 15 "Bothfaces$Card" "stands" "[I", Cond.methodLink RX5 298 yX5_yarnOfThreads, Cond.instanceMethod yX5_yarnOfThreads, Cond.selects RX5 yX5_yarnOfThreads yX5_yarnOfThreads, Cond.code yX5_yarnOfThreads cX5_yarnOfThreads 4 (some .int)]
def wsX5_isSound : List Cond := .code yX5_isSound cX5_isSound 2 (some .boolean) :: ((wsX5_isSound_r1 ++ (wsX5_isSound_r2 ++ (wsX5_isSound_r3 ++ (wsX5_isSound_r4 ++ wsX5_isSound_r5)))) ++ wsX50 ++ wsX10 ++ wsX30 ++ wsX40 ++ (vx_atM "java/lang/ArrayIndexOutOfBoundsException" ["java/lang/IndexOutOfBoundsException", "java/lang/RuntimeException", "java/lang/Exception"]).filter goodWord)
theorem dX0_enter_0 : decode cX0_enter 0 = .ok (.aload_n 0, 1) := by decide +kernel
theorem dX0_enter_1 : decode cX0_enter 1 = .ok (.getfield 9, 3) := by decide +kernel
theorem dX0_enter_4 : decode cX0_enter 4 = .ok (.aload_n 0, 1) := by decide +kernel
theorem dX0_enter_5 : decode cX0_enter 5 = .ok (.getfield 24, 3) := by decide +kernel
theorem dX0_enter_8 : decode cX0_enter 8 = .ok (.iload_n 1, 1) := by decide +kernel
theorem dX0_enter_9 : decode cX0_enter 9 = .ok (.bipush 10, 2) := by decide +kernel
theorem dX0_enter_11 : decode cX0_enter 11 = .ok (.iadd, 1) := by decide +kernel
theorem dX0_enter_12 : decode cX0_enter 12 = .ok (.iconst 1, 1) := by decide +kernel
theorem dX0_enter_13 : decode cX0_enter 13 = .ok (.isub, 1) := by decide +kernel
theorem dX0_enter_14 : decode cX0_enter 14 = .ok (.bipush 10, 2) := by decide +kernel
theorem dX0_enter_16 : decode cX0_enter 16 = .ok (.idiv, 1) := by decide +kernel
theorem dX0_enter_17 : decode cX0_enter 17 = .ok (.iastore, 1) := by decide +kernel
theorem dX0_enter_18 : decode cX0_enter 18 = .ok (.aload_n 0, 1) := by decide +kernel
theorem dX0_enter_19 : decode cX0_enter 19 = .ok (.getfield 15, 3) := by decide +kernel
theorem dX0_enter_22 : decode cX0_enter 22 = .ok (.aload_n 0, 1) := by decide +kernel
theorem dX0_enter_23 : decode cX0_enter 23 = .ok (.getfield 24, 3) := by decide +kernel
theorem dX0_enter_26 : decode cX0_enter 26 = .ok (.iload_n 2, 1) := by decide +kernel
theorem dX0_enter_27 : decode cX0_enter 27 = .ok (.iastore, 1) := by decide +kernel
theorem dX0_enter_28 : decode cX0_enter 28 = .ok (.aload_n 0, 1) := by decide +kernel
theorem dX0_enter_29 : decode cX0_enter 29 = .ok (.getfield 18, 3) := by decide +kernel
theorem dX0_enter_32 : decode cX0_enter 32 = .ok (.aload_n 0, 1) := by decide +kernel
theorem dX0_enter_33 : decode cX0_enter 33 = .ok (.getfield 24, 3) := by decide +kernel
theorem dX0_enter_36 : decode cX0_enter 36 = .ok (.iload_n 3, 1) := by decide +kernel
theorem dX0_enter_37 : decode cX0_enter 37 = .ok (.iastore, 1) := by decide +kernel
theorem dX0_enter_38 : decode cX0_enter 38 = .ok (.aload_n 0, 1) := by decide +kernel
theorem dX0_enter_39 : decode cX0_enter 39 = .ok (.dup, 1) := by decide +kernel
theorem dX0_enter_40 : decode cX0_enter 40 = .ok (.getfield 24, 3) := by decide +kernel
theorem dX0_enter_43 : decode cX0_enter 43 = .ok (.iconst 1, 1) := by decide +kernel
theorem dX0_enter_44 : decode cX0_enter 44 = .ok (.iadd, 1) := by decide +kernel
theorem dX0_enter_45 : decode cX0_enter 45 = .ok (.putfield 24, 3) := by decide +kernel
theorem dX0_enter_48 : decode cX0_enter 48 = .ok (.return_, 1) := by decide +kernel
theorem dX0_mostWorth_0 : decode cX0_mostWorth 0 = .ok (.iconst 1, 1) := by decide +kernel
theorem dX0_mostWorth_1 : decode cX0_mostWorth 1 = .ok (.aload_n 0, 1) := by decide +kernel
theorem dX0_mostWorth_2 : decode cX0_mostWorth 2 = .ok (.getfield 24, 3) := by decide +kernel
theorem dX0_mostWorth_5 : decode cX0_mostWorth 5 = .ok (.ishl, 1) := by decide +kernel
theorem dX0_mostWorth_6 : decode cX0_mostWorth 6 = .ok (.istore_n 1, 1) := by decide +kernel
theorem dX0_mostWorth_7 : decode cX0_mostWorth 7 = .ok (.iconst 1, 1) := by decide +kernel
theorem dX0_mostWorth_8 : decode cX0_mostWorth 8 = .ok (.istore_n 2, 1) := by decide +kernel
theorem dX0_mostWorth_9 : decode cX0_mostWorth 9 = .ok (.iload_n 2, 1) := by decide +kernel
theorem dX0_mostWorth_10 : decode cX0_mostWorth 10 = .ok (.iload_n 1, 1) := by decide +kernel
theorem dX0_mostWorth_11 : decode cX0_mostWorth 11 = .ok (.if_icmp .ge 81, 3) := by decide +kernel
theorem dX0_mostWorth_92 : decode cX0_mostWorth 92 = .ok (.aload_n 0, 1) := by decide +kernel
theorem dX0_mostWorth_93 : decode cX0_mostWorth 93 = .ok (.getfield 21, 3) := by decide +kernel
theorem dX0_mostWorth_96 : decode cX0_mostWorth 96 = .ok (.iload_n 1, 1) := by decide +kernel
theorem dX0_mostWorth_97 : decode cX0_mostWorth 97 = .ok (.iconst 1, 1) := by decide +kernel
theorem dX0_mostWorth_98 : decode cX0_mostWorth 98 = .ok (.isub, 1) := by decide +kernel
theorem dX0_mostWorth_99 : decode cX0_mostWorth 99 = .ok (.iaload, 1) := by decide +kernel
theorem dX0_mostWorth_100 : decode cX0_mostWorth 100 = .ok (.ireturn, 1) := by decide +kernel
theorem dX1_threadWith_0 : decode cX1_threadWith 0 = .ok (.aload_n 0, 1) := by decide +kernel
theorem dX1_threadWith_1 : decode cX1_threadWith 1 = .ok (.getfield 9, 3) := by decide +kernel
theorem dX1_threadWith_4 : decode cX1_threadWith 4 = .ok (.iconst 0, 1) := by decide +kernel
theorem dX1_threadWith_5 : decode cX1_threadWith 5 = .ok (.iload_n 1, 1) := by decide +kernel
theorem dX1_threadWith_6 : decode cX1_threadWith 6 = .ok (.iastore, 1) := by decide +kernel
theorem dX1_threadWith_7 : decode cX1_threadWith 7 = .ok (.aload_n 0, 1) := by decide +kernel
theorem dX1_threadWith_8 : decode cX1_threadWith 8 = .ok (.getfield 9, 3) := by decide +kernel
theorem dX1_threadWith_11 : decode cX1_threadWith 11 = .ok (.iconst 1, 1) := by decide +kernel
theorem dX1_threadWith_12 : decode cX1_threadWith 12 = .ok (.iload_n 2, 1) := by decide +kernel
theorem dX1_threadWith_13 : decode cX1_threadWith 13 = .ok (.iastore, 1) := by decide +kernel
theorem dX1_threadWith_14 : decode cX1_threadWith 14 = .ok (.aload_n 0, 1) := by decide +kernel
theorem dX1_threadWith_15 : decode cX1_threadWith 15 = .ok (.getfield 9, 3) := by decide +kernel
theorem dX1_threadWith_18 : decode cX1_threadWith 18 = .ok (.iconst 2, 1) := by decide +kernel
theorem dX1_threadWith_19 : decode cX1_threadWith 19 = .ok (.iload_n 3, 1) := by decide +kernel
theorem dX1_threadWith_20 : decode cX1_threadWith 20 = .ok (.iastore, 1) := by decide +kernel
theorem dX1_threadWith_21 : decode cX1_threadWith 21 = .ok (.aload_n 0, 1) := by decide +kernel
theorem dX1_threadWith_22 : decode cX1_threadWith 22 = .ok (.getfield 9, 3) := by decide +kernel
theorem dX1_threadWith_25 : decode cX1_threadWith 25 = .ok (.iconst 3, 1) := by decide +kernel
theorem dX1_threadWith_26 : decode cX1_threadWith 26 = .ok (.iload 4, 2) := by decide +kernel
theorem dX1_threadWith_28 : decode cX1_threadWith 28 = .ok (.iastore, 1) := by decide +kernel
theorem dX1_threadWith_29 : decode cX1_threadWith 29 = .ok (.aload_n 0, 1) := by decide +kernel
theorem dX1_threadWith_30 : decode cX1_threadWith 30 = .ok (.iload 5, 2) := by decide +kernel
theorem dX1_threadWith_32 : decode cX1_threadWith 32 = .ok (.putfield 21, 3) := by decide +kernel
theorem dX1_threadWith_35 : decode cX1_threadWith 35 = .ok (.return_, 1) := by decide +kernel
set_option maxRecDepth 20000 in
theorem ggX5_card_X5_needColour : GoodIn wsX5_card wsX5_needColour := goodIn_ca (goodIn_r _ [13, 1, 2] (by decide +kernel) (by decide +kernel)) (goodIn_sub (fun _ h => List.mem_cons_of_mem _ (List.mem_append_left _ (List.mem_append_left _ (List.mem_append_left _ (List.mem_append_right _ h))))) (by decide +kernel))
set_option maxRecDepth 20000 in
theorem gX5_card_X5_needColour : GoodIn wsX5_card (va_wsS RX5 63 yX5_needColour wsX5_needColour) := goodIn_app (goodIn_of _ (by decide +kernel)) ggX5_card_X5_needColour
set_option maxRecDepth 20000 in
theorem ggX5_card_X1_threadWith : GoodIn wsX5_card wsX1_threadWith := goodIn_ca (goodIn_r _ [17, 18, 19, 33, 34, 35, 36, 37, 38, 39] (by decide +kernel) (by decide +kernel)) (goodIn_sub (fun _ h => List.mem_cons_of_mem _ (List.mem_append_right _ h)) (by decide +kernel))
set_option maxRecDepth 20000 in
theorem gX5_card_X1_threadWith_n91 : GoodIn wsX5_card (wsX1_threadWith) := ggX5_card_X1_threadWith
theorem dX5_card_0 : decode cX5_card 0 = .ok (.iload_n 1, 1) := by decide +kernel
theorem dX5_card_1 : decode cX5_card 1 = .ok (.invokestatic 63, 3) := by decide +kernel
theorem dX5_card_4 : decode cX5_card 4 = .ok (.iload_n 2, 1) := by decide +kernel
theorem dX5_card_5 : decode cX5_card 5 = .ok (.invokestatic 63, 3) := by decide +kernel
theorem dX5_card_8 : decode cX5_card 8 = .ok (.iload_n 3, 1) := by decide +kernel
theorem dX5_card_9 : decode cX5_card 9 = .ok (.invokestatic 63, 3) := by decide +kernel
theorem dX5_card_12 : decode cX5_card 12 = .ok (.iload 4, 2) := by decide +kernel
theorem dX5_card_14 : decode cX5_card 14 = .ok (.invokestatic 63, 3) := by decide +kernel
theorem dX5_card_17 : decode cX5_card 17 = .ok (.iload 5, 2) := by decide +kernel
theorem dX5_card_19 : decode cX5_card 19 = .ok (.bipush 115, 2) := by decide +kernel
theorem dX5_card_21 : decode cX5_card 21 = .ok (.if_icmp .eq 20, 3) := by decide +kernel
theorem dX5_card_24 : decode cX5_card 24 = .ok (.iload 5, 2) := by decide +kernel
theorem dX5_card_26 : decode cX5_card 26 = .ok (.bipush 122, 2) := by decide +kernel
theorem dX5_card_28 : decode cX5_card 28 = .ok (.if_icmp .eq 13, 3) := by decide +kernel
theorem dX5_card_31 : decode cX5_card 31 = .ok (.new 67, 3) := by decide +kernel
theorem dX5_card_34 : decode cX5_card 34 = .ok (.dup, 1) := by decide +kernel
theorem dX5_card_35 : decode cX5_card 35 = .ok (.ldc 69, 2) := by decide +kernel
theorem dX5_card_37 : decode cX5_card 37 = .ok (.invokespecial 71, 3) := by decide +kernel
theorem dX5_card_40 : decode cX5_card 40 = .ok (.athrow, 1) := by decide +kernel
theorem dX5_card_41 : decode cX5_card 41 = .ok (.aload_n 0, 1) := by decide +kernel
theorem dX5_card_42 : decode cX5_card 42 = .ok (.getfield 74, 3) := by decide +kernel
theorem dX5_card_45 : decode cX5_card 45 = .ok (.ifCond .le 13, 3) := by decide +kernel
theorem dX5_card_58 : decode cX5_card 58 = .ok (.aload_n 0, 1) := by decide +kernel
theorem dX5_card_59 : decode cX5_card 59 = .ok (.getfield 83, 3) := by decide +kernel
theorem dX5_card_62 : decode cX5_card 62 = .ok (.bipush 16, 2) := by decide +kernel
theorem dX5_card_64 : decode cX5_card 64 = .ok (.if_icmp .lt 13, 3) := by decide +kernel
theorem dX5_card_77 : decode cX5_card 77 = .ok (.aload_n 0, 1) := by decide +kernel
theorem dX5_card_78 : decode cX5_card 78 = .ok (.getfield 13, 3) := by decide +kernel
theorem dX5_card_81 : decode cX5_card 81 = .ok (.aload_n 0, 1) := by decide +kernel
theorem dX5_card_82 : decode cX5_card 82 = .ok (.getfield 83, 3) := by decide +kernel
theorem dX5_card_85 : decode cX5_card 85 = .ok (.aaload, 1) := by decide +kernel
theorem dX5_card_86 : decode cX5_card 86 = .ok (.iload_n 1, 1) := by decide +kernel
theorem dX5_card_87 : decode cX5_card 87 = .ok (.iload_n 2, 1) := by decide +kernel
theorem dX5_card_88 : decode cX5_card 88 = .ok (.iload_n 3, 1) := by decide +kernel
theorem dX5_card_89 : decode cX5_card 89 = .ok (.iload 4, 2) := by decide +kernel
theorem dX5_card_91 : decode cX5_card 91 = .ok (.iload 5, 2) := by decide +kernel
theorem dX5_card_93 : decode cX5_card 93 = .ok (.bipush 115, 2) := by decide +kernel
theorem dX5_card_95 : decode cX5_card 95 = .ok (.if_icmp .ne 7, 3) := by decide +kernel
theorem dX5_card_98 : decode cX5_card 98 = .ok (.iconst 1, 1) := by decide +kernel
theorem dX5_card_99 : decode cX5_card 99 = .ok (.goto 4, 3) := by decide +kernel
theorem dX5_card_102 : decode cX5_card 102 = .ok (.iconst 0, 1) := by decide +kernel
theorem dX5_card_103 : decode cX5_card 103 = .ok (.invokevirtual 91, 3) := by decide +kernel
theorem dX5_card_106 : decode cX5_card 106 = .ok (.aload_n 0, 1) := by decide +kernel
theorem dX5_card_107 : decode cX5_card 107 = .ok (.dup, 1) := by decide +kernel
theorem dX5_card_108 : decode cX5_card 108 = .ok (.getfield 83, 3) := by decide +kernel
theorem dX5_card_111 : decode cX5_card 111 = .ok (.iconst 1, 1) := by decide +kernel
theorem dX5_card_112 : decode cX5_card 112 = .ok (.iadd, 1) := by decide +kernel
theorem dX5_card_113 : decode cX5_card 113 = .ok (.putfield 83, 3) := by decide +kernel
theorem dX5_card_116 : decode cX5_card 116 = .ok (.aload_n 0, 1) := by decide +kernel
theorem dX5_card_117 : decode cX5_card 117 = .ok (.getfield 83, 3) := by decide +kernel
theorem dX5_card_120 : decode cX5_card 120 = .ok (.iconst 1, 1) := by decide +kernel
theorem dX5_card_121 : decode cX5_card 121 = .ok (.isub, 1) := by decide +kernel
theorem dX5_card_122 : decode cX5_card 122 = .ok (.ireturn, 1) := by decide +kernel
set_option maxRecDepth 20000 in
theorem ggX5_setPack_X5_needCard : GoodIn wsX5_setPack wsX5_needCard := goodIn_ca (goodIn_r _ [6, 7, 8, 9, 15, 16, 17, 18, 19, 20, 21, 22, 23, 24, 25, 26, 27] (by decide +kernel) (by decide +kernel)) (goodIn_sub (fun _ h => List.mem_cons_of_mem _ (List.mem_append_left _ (List.mem_append_right _ h))) (by decide +kernel))
set_option maxRecDepth 20000 in
theorem gX5_setPack_X5_needCard : GoodIn wsX5_setPack (wsV RX5 95 RX5 yX5_needCard wsX5_needCard) := goodIn_app (goodIn_of _ (by decide +kernel)) ggX5_setPack_X5_needCard
theorem dX5_setPack_0 : decode cX5_setPack 0 = .ok (.aload_n 0, 1) := by decide +kernel
theorem dX5_setPack_1 : decode cX5_setPack 1 = .ok (.iload_n 1, 1) := by decide +kernel
theorem dX5_setPack_2 : decode cX5_setPack 2 = .ok (.invokevirtual 95, 3) := by decide +kernel
set_option maxRecDepth 20000 in
theorem ggX5_turn_X5_needPack : GoodIn wsX5_turn wsX5_needPack := goodIn_ca (goodIn_r _ [6, 7, 8] (by decide +kernel) (by decide +kernel)) (goodIn_sub (fun _ h => List.mem_cons_of_mem _ (List.mem_append_right _ h)) (by decide +kernel))
set_option maxRecDepth 20000 in
theorem gX5_turn_X5_needPack : GoodIn wsX5_turn (va_wsS RX5 98 yX5_needPack wsX5_needPack) := goodIn_app (goodIn_of _ (by decide +kernel)) ggX5_turn_X5_needPack
theorem dX5_turn_0 : decode cX5_turn 0 = .ok (.iload_n 1, 1) := by decide +kernel
theorem dX5_turn_1 : decode cX5_turn 1 = .ok (.invokestatic 98, 3) := by decide +kernel
theorem dX5_turn_4 : decode cX5_turn 4 = .ok (.iconst 0, 1) := by decide +kernel
theorem dX5_turn_5 : decode cX5_turn 5 = .ok (.istore_n 3, 1) := by decide +kernel
theorem dX5_turn_6 : decode cX5_turn 6 = .ok (.iconst 0, 1) := by decide +kernel
theorem dX5_turn_7 : decode cX5_turn 7 = .ok (.istore 4, 2) := by decide +kernel
theorem dX5_turn_9 : decode cX5_turn 9 = .ok (.iload 4, 2) := by decide +kernel
theorem dX5_turn_11 : decode cX5_turn 11 = .ok (.aload_n 0, 1) := by decide +kernel
theorem dX5_turn_12 : decode cX5_turn 12 = .ok (.getfield 83, 3) := by decide +kernel
theorem dX5_turn_15 : decode cX5_turn 15 = .ok (.if_icmp .ge 37, 3) := by decide +kernel
theorem dX5_turn_52 : decode cX5_turn 52 = .ok (.iload_n 3, 1) := by decide +kernel
theorem dX5_turn_53 : decode cX5_turn 53 = .ok (.ireturn, 1) := by decide +kernel
set_option maxRecDepth 20000 in
theorem ggX5_at_X5_needCard : GoodIn wsX5_at wsX5_needCard := goodIn_ca (goodIn_r _ [6, 7, 8, 9, 10, 11, 12, 13, 14, 15, 16, 17, 18, 19, 20, 21, 22] (by decide +kernel) (by decide +kernel)) (goodIn_sub (fun _ h => List.mem_cons_of_mem _ (List.mem_append_right _ h)) (by decide +kernel))
set_option maxRecDepth 20000 in
theorem gX5_at_X5_needCard : GoodIn wsX5_at (wsV RX5 95 RX5 yX5_needCard wsX5_needCard) := goodIn_app (goodIn_of _ (by decide +kernel)) ggX5_at_X5_needCard
theorem dX5_at_0 : decode cX5_at 0 = .ok (.aload_n 0, 1) := by decide +kernel
theorem dX5_at_1 : decode cX5_at 1 = .ok (.iload_n 1, 1) := by decide +kernel
theorem dX5_at_2 : decode cX5_at 2 = .ok (.invokevirtual 95, 3) := by decide +kernel
set_option maxRecDepth 20000 in
theorem ggX5_twist_X5_needCard : GoodIn wsX5_twist wsX5_needCard := goodIn_ca (goodIn_r _ [6, 7, 8, 9, 10, 11, 12, 13, 14, 15, 16, 17, 18, 19, 20, 21, 22] (by decide +kernel) (by decide +kernel)) (goodIn_sub (fun _ h => List.mem_cons_of_mem _ (List.mem_append_right _ h)) (by decide +kernel))
set_option maxRecDepth 20000 in
theorem gX5_twist_X5_needCard : GoodIn wsX5_twist (wsV RX5 95 RX5 yX5_needCard wsX5_needCard) := goodIn_app (goodIn_of _ (by decide +kernel)) ggX5_twist_X5_needCard
theorem dX5_twist_0 : decode cX5_twist 0 = .ok (.aload_n 0, 1) := by decide +kernel
theorem dX5_twist_1 : decode cX5_twist 1 = .ok (.iload_n 1, 1) := by decide +kernel
theorem dX5_twist_2 : decode cX5_twist 2 = .ok (.invokevirtual 95, 3) := by decide +kernel
theorem dX5_mostTwist_0 : decode cX5_mostTwist 0 = .ok (.iconst 0, 1) := by decide +kernel
theorem dX5_mostTwist_1 : decode cX5_mostTwist 1 = .ok (.istore_n 1, 1) := by decide +kernel
theorem dX5_mostTwist_2 : decode cX5_mostTwist 2 = .ok (.iconst 0, 1) := by decide +kernel
theorem dX5_mostTwist_3 : decode cX5_mostTwist 3 = .ok (.istore_n 2, 1) := by decide +kernel
theorem dX5_mostTwist_4 : decode cX5_mostTwist 4 = .ok (.iload_n 2, 1) := by decide +kernel
theorem dX5_mostTwist_5 : decode cX5_mostTwist 5 = .ok (.aload_n 0, 1) := by decide +kernel
theorem dX5_mostTwist_6 : decode cX5_mostTwist 6 = .ok (.getfield 83, 3) := by decide +kernel
theorem dX5_mostTwist_9 : decode cX5_mostTwist 9 = .ok (.if_icmp .ge 26, 3) := by decide +kernel
theorem dX5_mostTwist_35 : decode cX5_mostTwist 35 = .ok (.iload_n 1, 1) := by decide +kernel
theorem dX5_mostTwist_36 : decode cX5_mostTwist 36 = .ok (.ireturn, 1) := by decide +kernel
set_option maxRecDepth 20000 in
theorem ggX5_slip_X5_needCard : GoodIn wsX5_slip wsX5_needCard := goodIn_ca (goodIn_r _ [8, 9, 10, 11, 15, 16, 17, 18, 19, 20, 21, 22, 23, 24, 25, 26, 27] (by decide +kernel) (by decide +kernel)) (goodIn_sub (fun _ h => List.mem_cons_of_mem _ (List.mem_append_right _ h)) (by decide +kernel))
set_option maxRecDepth 20000 in
theorem gX5_slip_X5_needCard : GoodIn wsX5_slip (wsV RX5 95 RX5 yX5_needCard wsX5_needCard) := goodIn_app (goodIn_of _ (by decide +kernel)) ggX5_slip_X5_needCard
theorem dX5_slip_0 : decode cX5_slip 0 = .ok (.aload_n 0, 1) := by decide +kernel
theorem dX5_slip_1 : decode cX5_slip 1 = .ok (.iload_n 1, 1) := by decide +kernel
theorem dX5_slip_2 : decode cX5_slip 2 = .ok (.invokevirtual 95, 3) := by decide +kernel
theorem dX5_pick_0 : decode cX5_pick 0 = .ok (.aload_n 0, 1) := by decide +kernel
theorem dX5_pick_1 : decode cX5_pick 1 = .ok (.getfield 83, 3) := by decide +kernel
theorem dX5_pick_4 : decode cX5_pick 4 = .ok (.ifCond .ne 13, 3) := by decide +kernel
theorem dX5_pick_7 : decode cX5_pick 7 = .ok (.new 78, 3) := by decide +kernel
theorem dX5_pick_10 : decode cX5_pick 10 = .ok (.dup, 1) := by decide +kernel
theorem dX5_pick_11 : decode cX5_pick 11 = .ok (.ldc 128, 2) := by decide +kernel
theorem dX5_pick_13 : decode cX5_pick 13 = .ok (.invokespecial 82, 3) := by decide +kernel
theorem dX5_pick_16 : decode cX5_pick 16 = .ok (.athrow, 1) := by decide +kernel
theorem dX5_unweave_0 : decode cX5_unweave 0 = .ok (.aload_n 0, 1) := by decide +kernel
theorem dX5_unweave_1 : decode cX5_unweave 1 = .ok (.getfield 74, 3) := by decide +kernel
theorem dX5_unweave_4 : decode cX5_unweave 4 = .ok (.ifCond .ne 13, 3) := by decide +kernel
theorem dX5_unweave_7 : decode cX5_unweave 7 = .ok (.new 78, 3) := by decide +kernel
theorem dX5_unweave_10 : decode cX5_unweave 10 = .ok (.dup, 1) := by decide +kernel
theorem dX5_unweave_11 : decode cX5_unweave 11 = .ok (.ldc 135, 2) := by decide +kernel
theorem dX5_unweave_13 : decode cX5_unweave 13 = .ok (.invokespecial 82, 3) := by decide +kernel
theorem dX5_unweave_16 : decode cX5_unweave 16 = .ok (.athrow, 1) := by decide +kernel
theorem dX5_picks_0 : decode cX5_picks 0 = .ok (.aload_n 0, 1) := by decide +kernel
theorem dX5_picks_1 : decode cX5_picks 1 = .ok (.getfield 74, 3) := by decide +kernel
theorem dX5_picks_4 : decode cX5_picks 4 = .ok (.ireturn, 1) := by decide +kernel
set_option maxRecDepth 20000 in
theorem ggX5_colour_X5_needCard : GoodIn wsX5_colour wsX5_needCard := goodIn_ca (goodIn_r _ [6, 7, 8, 9, 30, 31, 32, 33, 34, 35, 36, 37, 38, 39, 40, 41, 42] (by decide +kernel) (by decide +kernel)) (goodIn_sub (fun _ h => List.mem_cons_of_mem _ (List.mem_append_left _ (List.mem_append_right _ h))) (by decide +kernel))
set_option maxRecDepth 20000 in
theorem gX5_colour_X5_needCard : GoodIn wsX5_colour (wsV RX5 95 RX5 yX5_needCard wsX5_needCard) := goodIn_app (goodIn_of _ (by decide +kernel)) ggX5_colour_X5_needCard
theorem dX5_colour_0 : decode cX5_colour 0 = .ok (.aload_n 0, 1) := by decide +kernel
theorem dX5_colour_1 : decode cX5_colour 1 = .ok (.iload_n 1, 1) := by decide +kernel
theorem dX5_colour_2 : decode cX5_colour 2 = .ok (.invokevirtual 95, 3) := by decide +kernel
set_option maxRecDepth 20000 in
theorem ggX5_isIdle_X5_needCard : GoodIn wsX5_isIdle wsX5_needCard := goodIn_ca (goodIn_r _ [6, 7, 8, 9, 20, 21, 22, 23, 24, 25, 26, 27, 28, 29, 30, 31, 32] (by decide +kernel) (by decide +kernel)) (goodIn_sub (fun _ h => List.mem_cons_of_mem _ (List.mem_append_left _ (List.mem_append_right _ h))) (by decide +kernel))
set_option maxRecDepth 20000 in
theorem gX5_isIdle_X5_needCard : GoodIn wsX5_isIdle (wsV RX5 95 RX5 yX5_needCard wsX5_needCard) := goodIn_app (goodIn_of _ (by decide +kernel)) ggX5_isIdle_X5_needCard
theorem dX5_isIdle_0 : decode cX5_isIdle 0 = .ok (.aload_n 0, 1) := by decide +kernel
theorem dX5_isIdle_1 : decode cX5_isIdle 1 = .ok (.iload_n 1, 1) := by decide +kernel
theorem dX5_isIdle_2 : decode cX5_isIdle 2 = .ok (.invokevirtual 95, 3) := by decide +kernel
set_option maxRecDepth 20000 in
theorem ggX5_longestFloat_X5_needCard : GoodIn wsX5_longestFloat wsX5_needCard := goodIn_ca (goodIn_r _ [11, 12, 13, 14, 20, 21, 22, 23, 24, 25, 26, 27, 28, 29, 30, 31, 32] (by decide +kernel) (by decide +kernel)) (goodIn_sub (fun _ h => List.mem_cons_of_mem _ (List.mem_append_left _ (List.mem_append_right _ h))) (by decide +kernel))
set_option maxRecDepth 20000 in
theorem gX5_longestFloat_X5_needCard : GoodIn wsX5_longestFloat (wsV RX5 95 RX5 yX5_needCard wsX5_needCard) := goodIn_app (goodIn_of _ (by decide +kernel)) ggX5_longestFloat_X5_needCard
theorem dX5_longestFloat_0 : decode cX5_longestFloat 0 = .ok (.aload_n 0, 1) := by decide +kernel
theorem dX5_longestFloat_1 : decode cX5_longestFloat 1 = .ok (.iload_n 1, 1) := by decide +kernel
theorem dX5_longestFloat_2 : decode cX5_longestFloat 2 = .ok (.invokevirtual 95, 3) := by decide +kernel
set_option maxRecDepth 20000 in
theorem ggX5_draw_X5_needLetter : GoodIn wsX5_draw wsX5_needLetter := goodIn_ca (goodIn_r _ [7, 1, 2] (by decide +kernel) (by decide +kernel)) (goodIn_sub (fun _ h => List.mem_cons_of_mem _ (List.mem_append_left _ (List.mem_append_right _ h))) (by decide +kernel))
set_option maxRecDepth 20000 in
theorem gX5_draw_X5_needLetter : GoodIn wsX5_draw (va_wsS RX5 151 yX5_needLetter wsX5_needLetter) := goodIn_app (goodIn_of _ (by decide +kernel)) ggX5_draw_X5_needLetter
theorem dX5_draw_0 : decode cX5_draw 0 = .ok (.iload_n 1, 1) := by decide +kernel
theorem dX5_draw_1 : decode cX5_draw 1 = .ok (.invokestatic 151, 3) := by decide +kernel
theorem dX5_draw_4 : decode cX5_draw 4 = .ok (.iload_n 2, 1) := by decide +kernel
theorem dX5_draw_5 : decode cX5_draw 5 = .ok (.ifCond .lt 18, 3) := by decide +kernel
theorem dX5_draw_8 : decode cX5_draw 8 = .ok (.iload_n 2, 1) := by decide +kernel
theorem dX5_draw_9 : decode cX5_draw 9 = .ok (.iconst 5, 1) := by decide +kernel
theorem dX5_draw_10 : decode cX5_draw 10 = .ok (.if_icmp .ge 13, 3) := by decide +kernel
theorem dX5_draw_13 : decode cX5_draw 13 = .ok (.iload_n 3, 1) := by decide +kernel
theorem dX5_draw_14 : decode cX5_draw 14 = .ok (.ifCond .lt 9, 3) := by decide +kernel
theorem dX5_draw_17 : decode cX5_draw 17 = .ok (.iload_n 3, 1) := by decide +kernel
theorem dX5_draw_18 : decode cX5_draw 18 = .ok (.bipush 8, 2) := by decide +kernel
theorem dX5_draw_20 : decode cX5_draw 20 = .ok (.if_icmp .lt 13, 3) := by decide +kernel
theorem dX5_draw_23 : decode cX5_draw 23 = .ok (.new 67, 3) := by decide +kernel
theorem dX5_draw_26 : decode cX5_draw 26 = .ok (.dup, 1) := by decide +kernel
theorem dX5_draw_27 : decode cX5_draw 27 = .ok (.ldc 155, 2) := by decide +kernel
theorem dX5_draw_29 : decode cX5_draw 29 = .ok (.invokespecial 71, 3) := by decide +kernel
theorem dX5_draw_32 : decode cX5_draw 32 = .ok (.athrow, 1) := by decide +kernel
theorem dX5_draw_33 : decode cX5_draw 33 = .ok (.aload_n 0, 1) := by decide +kernel
theorem dX5_draw_34 : decode cX5_draw 34 = .ok (.getfield 19, 3) := by decide +kernel
theorem dX5_draw_37 : decode cX5_draw 37 = .ok (.iload_n 1, 1) := by decide +kernel
theorem dX5_draw_38 : decode cX5_draw 38 = .ok (.bipush 97, 2) := by decide +kernel
theorem dX5_draw_40 : decode cX5_draw 40 = .ok (.isub, 1) := by decide +kernel
theorem dX5_draw_41 : decode cX5_draw 41 = .ok (.aaload, 1) := by decide +kernel
theorem dX5_draw_42 : decode cX5_draw 42 = .ok (.iload_n 2, 1) := by decide +kernel
theorem dX5_draw_43 : decode cX5_draw 43 = .ok (.iaload, 1) := by decide +kernel
theorem dX5_draw_44 : decode cX5_draw 44 = .ok (.istore 4, 2) := by decide +kernel
theorem dX5_draw_46 : decode cX5_draw 46 = .ok (.aload_n 0, 1) := by decide +kernel
theorem dX5_draw_47 : decode cX5_draw 47 = .ok (.getfield 19, 3) := by decide +kernel
theorem dX5_draw_50 : decode cX5_draw 50 = .ok (.iload_n 1, 1) := by decide +kernel
theorem dX5_draw_51 : decode cX5_draw 51 = .ok (.bipush 97, 2) := by decide +kernel
theorem dX5_draw_53 : decode cX5_draw 53 = .ok (.isub, 1) := by decide +kernel
theorem dX5_draw_54 : decode cX5_draw 54 = .ok (.aaload, 1) := by decide +kernel
theorem dX5_draw_55 : decode cX5_draw 55 = .ok (.iload_n 2, 1) := by decide +kernel
theorem dX5_draw_56 : decode cX5_draw 56 = .ok (.iload_n 3, 1) := by decide +kernel
theorem dX5_draw_57 : decode cX5_draw 57 = .ok (.iastore, 1) := by decide +kernel
theorem dX5_draw_58 : decode cX5_draw 58 = .ok (.iload 4, 2) := by decide +kernel
theorem dX5_draw_60 : decode cX5_draw 60 = .ok (.ireturn, 1) := by decide +kernel
set_option maxRecDepth 20000 in
theorem ggX5_type_X5_needLetter : GoodIn wsX5_type wsX5_needLetter := goodIn_ca (goodIn_r _ [8, 9, 10] (by decide +kernel) (by decide +kernel)) (goodIn_sub (fun _ h => List.mem_cons_of_mem _ (List.mem_append_right _ h)) (by decide +kernel))
set_option maxRecDepth 20000 in
theorem gX5_type_X5_needLetter : GoodIn wsX5_type (va_wsS RX5 151 yX5_needLetter wsX5_needLetter) := goodIn_app (goodIn_of _ (by decide +kernel)) ggX5_type_X5_needLetter
theorem dX5_type_0 : decode cX5_type 0 = .ok (.iload_n 1, 1) := by decide +kernel
theorem dX5_type_1 : decode cX5_type 1 = .ok (.invokestatic 151, 3) := by decide +kernel
theorem dX5_type_4 : decode cX5_type 4 = .ok (.aload_n 0, 1) := by decide +kernel
theorem dX5_type_5 : decode cX5_type 5 = .ok (.getfield 157, 3) := by decide +kernel
theorem dX5_type_8 : decode cX5_type 8 = .ok (.bipush 8, 2) := by decide +kernel
theorem dX5_type_10 : decode cX5_type 10 = .ok (.if_icmp .lt 13, 3) := by decide +kernel
theorem dX5_type_23 : decode cX5_type 23 = .ok (.aload_n 0, 1) := by decide +kernel
theorem dX5_type_24 : decode cX5_type 24 = .ok (.getfield 22, 3) := by decide +kernel
theorem dX5_type_27 : decode cX5_type 27 = .ok (.aload_n 0, 1) := by decide +kernel
theorem dX5_type_28 : decode cX5_type 28 = .ok (.getfield 157, 3) := by decide +kernel
theorem dX5_type_31 : decode cX5_type 31 = .ok (.iload_n 1, 1) := by decide +kernel
theorem dX5_type_32 : decode cX5_type 32 = .ok (.bipush 97, 2) := by decide +kernel
theorem dX5_type_34 : decode cX5_type 34 = .ok (.isub, 1) := by decide +kernel
theorem dX5_type_35 : decode cX5_type 35 = .ok (.iastore, 1) := by decide +kernel
theorem dX5_type_36 : decode cX5_type 36 = .ok (.aload_n 0, 1) := by decide +kernel
theorem dX5_type_37 : decode cX5_type 37 = .ok (.dup, 1) := by decide +kernel
theorem dX5_type_38 : decode cX5_type 38 = .ok (.getfield 157, 3) := by decide +kernel
theorem dX5_type_41 : decode cX5_type 41 = .ok (.iconst 1, 1) := by decide +kernel
theorem dX5_type_42 : decode cX5_type 42 = .ok (.iadd, 1) := by decide +kernel
theorem dX5_type_43 : decode cX5_type 43 = .ok (.putfield 157, 3) := by decide +kernel
theorem dX5_type_46 : decode cX5_type 46 = .ok (.aload_n 0, 1) := by decide +kernel
theorem dX5_type_47 : decode cX5_type 47 = .ok (.getfield 157, 3) := by decide +kernel
theorem dX5_type_50 : decode cX5_type 50 = .ok (.ireturn, 1) := by decide +kernel
theorem dX5_wipe_0 : decode cX5_wipe 0 = .ok (.aload_n 0, 1) := by decide +kernel
theorem dX5_wipe_1 : decode cX5_wipe 1 = .ok (.getfield 157, 3) := by decide +kernel
theorem dX5_wipe_4 : decode cX5_wipe 4 = .ok (.istore_n 1, 1) := by decide +kernel
theorem dX5_wipe_5 : decode cX5_wipe 5 = .ok (.aload_n 0, 1) := by decide +kernel
theorem dX5_wipe_6 : decode cX5_wipe 6 = .ok (.iconst 0, 1) := by decide +kernel
theorem dX5_wipe_7 : decode cX5_wipe 7 = .ok (.putfield 157, 3) := by decide +kernel
theorem dX5_wipe_10 : decode cX5_wipe 10 = .ok (.iload_n 1, 1) := by decide +kernel
theorem dX5_wipe_11 : decode cX5_wipe 11 = .ok (.ireturn, 1) := by decide +kernel
set_option maxRecDepth 20000 in
theorem ggX5_motto_X5_needCard : GoodIn wsX5_motto wsX5_needCard := goodIn_ca (goodIn_r _ [10, 11, 12, 4, 39, 40, 41, 42, 43, 44, 45, 46, 47, 48, 49, 50, 51] (by decide +kernel) (by decide +kernel)) (goodIn_sub (fun _ h => List.mem_cons_of_mem _ (List.mem_append_left _ (List.mem_append_right _ h))) (by decide +kernel))
set_option maxRecDepth 20000 in
theorem gX5_motto_X5_needCard : GoodIn wsX5_motto (wsV RX5 95 RX5 yX5_needCard wsX5_needCard) := goodIn_app (goodIn_of _ (by decide +kernel)) ggX5_motto_X5_needCard
theorem dX5_motto_0 : decode cX5_motto 0 = .ok (.aload_n 0, 1) := by decide +kernel
theorem dX5_motto_1 : decode cX5_motto 1 = .ok (.iload_n 2, 1) := by decide +kernel
theorem dX5_motto_2 : decode cX5_motto 2 = .ok (.invokevirtual 95, 3) := by decide +kernel
set_option maxRecDepth 20000 in
theorem ggX5_setInk_X5_needColour : GoodIn wsX5_setInk wsX5_needColour := goodIn_ca (goodIn_r _ [4, 5, 6] (by decide +kernel) (by decide +kernel)) (goodIn_sub (fun _ h => List.mem_cons_of_mem _ (List.mem_append_right _ h)) (by decide +kernel))
set_option maxRecDepth 20000 in
theorem gX5_setInk_X5_needColour : GoodIn wsX5_setInk (va_wsS RX5 63 yX5_needColour wsX5_needColour) := goodIn_app (goodIn_of _ (by decide +kernel)) ggX5_setInk_X5_needColour
set_option maxRecDepth 20000 in
theorem ggX5_setInk_X5_sideOf : GoodIn wsX5_setInk wsX5_sideOf := goodIn_r _ [10, 11, 12, 20, 21, 22, 23, 24, 25, 26, 27, 28, 29, 30, 31, 32] (by decide +kernel) (by decide +kernel)
set_option maxRecDepth 20000 in
theorem gX5_setInk_X5_sideOf : GoodIn wsX5_setInk (wsV RX5 172 RX5 yX5_sideOf wsX5_sideOf) := goodIn_app (goodIn_of _ (by decide +kernel)) ggX5_setInk_X5_sideOf
theorem dX5_setInk_0 : decode cX5_setInk 0 = .ok (.iload_n 2, 1) := by decide +kernel
theorem dX5_setInk_1 : decode cX5_setInk 1 = .ok (.invokestatic 63, 3) := by decide +kernel
theorem dX5_setInk_4 : decode cX5_setInk 4 = .ok (.aload_n 0, 1) := by decide +kernel
theorem dX5_setInk_5 : decode cX5_setInk 5 = .ok (.iload_n 1, 1) := by decide +kernel
theorem dX5_setInk_6 : decode cX5_setInk 6 = .ok (.invokevirtual 172, 3) := by decide +kernel
theorem dX5_setInk_9 : decode cX5_setInk 9 = .ok (.astore_n 3, 1) := by decide +kernel
theorem dX5_setInk_10 : decode cX5_setInk 10 = .ok (.aload_n 3, 1) := by decide +kernel
theorem dX5_setInk_11 : decode cX5_setInk 11 = .ok (.getfield 180, 3) := by decide +kernel
theorem dX5_setInk_14 : decode cX5_setInk 14 = .ok (.istore 4, 2) := by decide +kernel
theorem dX5_setInk_16 : decode cX5_setInk 16 = .ok (.aload_n 3, 1) := by decide +kernel
theorem dX5_setInk_17 : decode cX5_setInk 17 = .ok (.iload_n 2, 1) := by decide +kernel
theorem dX5_setInk_18 : decode cX5_setInk 18 = .ok (.putfield 180, 3) := by decide +kernel
theorem dX5_setInk_21 : decode cX5_setInk 21 = .ok (.iload 4, 2) := by decide +kernel
theorem dX5_setInk_23 : decode cX5_setInk 23 = .ok (.ireturn, 1) := by decide +kernel
set_option maxRecDepth 20000 in
theorem ggX5_setGround_X5_needColour : GoodIn wsX5_setGround wsX5_needColour := goodIn_ca (goodIn_r _ [4, 5, 6] (by decide +kernel) (by decide +kernel)) (goodIn_sub (fun _ h => List.mem_cons_of_mem _ (List.mem_append_right _ h)) (by decide +kernel))
set_option maxRecDepth 20000 in
theorem gX5_setGround_X5_needColour : GoodIn wsX5_setGround (va_wsS RX5 63 yX5_needColour wsX5_needColour) := goodIn_app (goodIn_of _ (by decide +kernel)) ggX5_setGround_X5_needColour
set_option maxRecDepth 20000 in
theorem ggX5_setGround_X5_sideOf : GoodIn wsX5_setGround wsX5_sideOf := goodIn_r _ [10, 11, 12, 20, 21, 22, 23, 24, 25, 26, 27, 28, 29, 30, 31, 32] (by decide +kernel) (by decide +kernel)
set_option maxRecDepth 20000 in
theorem gX5_setGround_X5_sideOf : GoodIn wsX5_setGround (wsV RX5 172 RX5 yX5_sideOf wsX5_sideOf) := goodIn_app (goodIn_of _ (by decide +kernel)) ggX5_setGround_X5_sideOf
theorem dX5_setGround_0 : decode cX5_setGround 0 = .ok (.iload_n 2, 1) := by decide +kernel
theorem dX5_setGround_1 : decode cX5_setGround 1 = .ok (.invokestatic 63, 3) := by decide +kernel
theorem dX5_setGround_4 : decode cX5_setGround 4 = .ok (.aload_n 0, 1) := by decide +kernel
theorem dX5_setGround_5 : decode cX5_setGround 5 = .ok (.iload_n 1, 1) := by decide +kernel
theorem dX5_setGround_6 : decode cX5_setGround 6 = .ok (.invokevirtual 172, 3) := by decide +kernel
theorem dX5_setGround_9 : decode cX5_setGround 9 = .ok (.astore_n 3, 1) := by decide +kernel
theorem dX5_setGround_10 : decode cX5_setGround 10 = .ok (.aload_n 3, 1) := by decide +kernel
theorem dX5_setGround_11 : decode cX5_setGround 11 = .ok (.getfield 183, 3) := by decide +kernel
theorem dX5_setGround_14 : decode cX5_setGround 14 = .ok (.istore 4, 2) := by decide +kernel
theorem dX5_setGround_16 : decode cX5_setGround 16 = .ok (.aload_n 3, 1) := by decide +kernel
theorem dX5_setGround_17 : decode cX5_setGround 17 = .ok (.iload_n 2, 1) := by decide +kernel
theorem dX5_setGround_18 : decode cX5_setGround 18 = .ok (.putfield 183, 3) := by decide +kernel
theorem dX5_setGround_21 : decode cX5_setGround 21 = .ok (.iload 4, 2) := by decide +kernel
theorem dX5_setGround_23 : decode cX5_setGround 23 = .ok (.ireturn, 1) := by decide +kernel
set_option maxRecDepth 20000 in
theorem ggX5_wanted_X5_needCard : GoodIn wsX5_wanted wsX5_needCard := goodIn_ca (goodIn_r _ [5, 6, 7, 8, 36, 37, 38, 39, 40, 41, 42, 43, 44, 45, 46, 47, 48] (by decide +kernel) (by decide +kernel)) (goodIn_sub (fun _ h => List.mem_cons_of_mem _ (List.mem_append_left _ (List.mem_append_left _ (List.mem_append_right _ h)))) (by decide +kernel))
set_option maxRecDepth 20000 in
theorem gX5_wanted_X5_needCard : GoodIn wsX5_wanted (wsV RX5 95 RX5 yX5_needCard wsX5_needCard) := goodIn_app (goodIn_of _ (by decide +kernel)) ggX5_wanted_X5_needCard
theorem dX5_wanted_0 : decode cX5_wanted 0 = .ok (.aload_n 0, 1) := by decide +kernel
theorem dX5_wanted_1 : decode cX5_wanted 1 = .ok (.iload_n 1, 1) := by decide +kernel
theorem dX5_wanted_2 : decode cX5_wanted 2 = .ok (.invokevirtual 95, 3) := by decide +kernel
set_option maxRecDepth 20000 in
theorem ggX5_pairs_X5_needCard : GoodIn wsX5_pairs wsX5_needCard := goodIn_ca (goodIn_r _ [6, 7, 8, 9, 23, 24, 25, 26, 27, 28, 29, 30, 31, 32, 33, 34, 35] (by decide +kernel) (by decide +kernel)) (goodIn_sub (fun _ h => List.mem_cons_of_mem _ (List.mem_append_left _ (List.mem_append_right _ h))) (by decide +kernel))
set_option maxRecDepth 20000 in
theorem gX5_pairs_X5_needCard : GoodIn wsX5_pairs (wsV RX5 95 RX5 yX5_needCard wsX5_needCard) := goodIn_app (goodIn_of _ (by decide +kernel)) ggX5_pairs_X5_needCard
theorem dX5_pairs_0 : decode cX5_pairs 0 = .ok (.aload_n 0, 1) := by decide +kernel
theorem dX5_pairs_1 : decode cX5_pairs 1 = .ok (.iload_n 1, 1) := by decide +kernel
theorem dX5_pairs_2 : decode cX5_pairs 2 = .ok (.invokevirtual 95, 3) := by decide +kernel
set_option maxRecDepth 20000 in
theorem ggX5_canPlan_X5_needCard : GoodIn wsX5_canPlan wsX5_needCard := goodIn_ca (goodIn_r _ [6, 7, 8, 9, 89, 90, 91, 92, 93, 94, 95, 96, 97, 98, 99, 100, 101] (by decide +kernel) (by decide +kernel)) (goodIn_sub (fun _ h => List.mem_cons_of_mem _ (List.mem_append_left _ (List.mem_append_left _ (List.mem_append_right _ h)))) (by decide +kernel))
set_option maxRecDepth 20000 in
theorem gX5_canPlan_X5_needCard : GoodIn wsX5_canPlan (wsV RX5 95 RX5 yX5_needCard wsX5_needCard) := goodIn_app (goodIn_of _ (by decide +kernel)) ggX5_canPlan_X5_needCard
theorem dX5_canPlan_0 : decode cX5_canPlan 0 = .ok (.aload_n 0, 1) := by decide +kernel
theorem dX5_canPlan_1 : decode cX5_canPlan 1 = .ok (.iload_n 1, 1) := by decide +kernel
theorem dX5_canPlan_2 : decode cX5_canPlan 2 = .ok (.invokevirtual 95, 3) := by decide +kernel
set_option maxRecDepth 20000 in
theorem ggX5_reversals_X5_needCard : GoodIn wsX5_reversals wsX5_needCard := goodIn_ca (goodIn_r _ [5, 6, 7, 8, 94, 95, 96, 97, 98, 99, 100, 101, 102, 103, 104, 105, 106] (by decide +kernel) (by decide +kernel)) (goodIn_sub (fun _ h => List.mem_cons_of_mem _ (List.mem_append_left _ (List.mem_append_left _ (List.mem_append_left _ (List.mem_append_right _ h))))) (by decide +kernel))
set_option maxRecDepth 20000 in
theorem gX5_reversals_X5_needCard : GoodIn wsX5_reversals (wsV RX5 95 RX5 yX5_needCard wsX5_needCard) := goodIn_app (goodIn_of _ (by decide +kernel)) ggX5_reversals_X5_needCard
theorem dX5_reversals_0 : decode cX5_reversals 0 = .ok (.aload_n 0, 1) := by decide +kernel
theorem dX5_reversals_1 : decode cX5_reversals 1 = .ok (.iload_n 1, 1) := by decide +kernel
theorem dX5_reversals_2 : decode cX5_reversals 2 = .ok (.invokevirtual 95, 3) := by decide +kernel
set_option maxRecDepth 20000 in
theorem ggX5_planAt_X5_needCard : GoodIn wsX5_planAt wsX5_needCard := goodIn_ca (goodIn_r _ [8, 9, 10, 11, 98, 99, 100, 101, 102, 103, 104, 105, 106, 107, 108, 109, 110] (by decide +kernel) (by decide +kernel)) (goodIn_sub (fun _ h => List.mem_cons_of_mem _ (List.mem_append_left _ (List.mem_append_left _ (List.mem_append_right _ h)))) (by decide +kernel))
set_option maxRecDepth 20000 in
theorem gX5_planAt_X5_needCard : GoodIn wsX5_planAt (wsV RX5 95 RX5 yX5_needCard wsX5_needCard) := goodIn_app (goodIn_of _ (by decide +kernel)) ggX5_planAt_X5_needCard
theorem dX5_planAt_0 : decode cX5_planAt 0 = .ok (.aload_n 0, 1) := by decide +kernel
theorem dX5_planAt_1 : decode cX5_planAt 1 = .ok (.iload_n 1, 1) := by decide +kernel
theorem dX5_planAt_2 : decode cX5_planAt 2 = .ok (.invokevirtual 95, 3) := by decide +kernel
set_option maxRecDepth 20000 in
theorem ggX5_weave_X5_needLast : GoodIn wsX5_weave wsX5_needLast := goodIn_ca (goodIn_r _ [10, 11, 12, 13, 104, 105, 106, 107, 108, 109, 110, 111, 112, 113, 114, 115, 116] (by decide +kernel) (by decide +kernel)) (goodIn_sub (fun _ h => List.mem_cons_of_mem _ (List.mem_append_left _ (List.mem_append_right _ h))) (by decide +kernel))
set_option maxRecDepth 20000 in
theorem gX5_weave_X5_needLast : GoodIn wsX5_weave (wsV RX5 194 RX5 yX5_needLast wsX5_needLast) := goodIn_app (goodIn_of _ (by decide +kernel)) ggX5_weave_X5_needLast
theorem dX5_weave_0 : decode cX5_weave 0 = .ok (.aload_n 0, 1) := by decide +kernel
theorem dX5_weave_1 : decode cX5_weave 1 = .ok (.iload_n 1, 1) := by decide +kernel
theorem dX5_weave_2 : decode cX5_weave 2 = .ok (.invokevirtual 194, 3) := by decide +kernel
theorem dX5_weave_5 : decode cX5_weave 5 = .ok (.aload_n 0, 1) := by decide +kernel
theorem dX5_weave_6 : decode cX5_weave 6 = .ok (.getfield 83, 3) := by decide +kernel
theorem dX5_weave_9 : decode cX5_weave 9 = .ok (.ifCond .ne 13, 3) := by decide +kernel
theorem dX5_weave_12 : decode cX5_weave 12 = .ok (.new 78, 3) := by decide +kernel
theorem dX5_weave_15 : decode cX5_weave 15 = .ok (.dup, 1) := by decide +kernel
theorem dX5_weave_16 : decode cX5_weave 16 = .ok (.ldc 128, 2) := by decide +kernel
theorem dX5_weave_18 : decode cX5_weave 18 = .ok (.invokespecial 82, 3) := by decide +kernel
theorem dX5_weave_21 : decode cX5_weave 21 = .ok (.athrow, 1) := by decide +kernel
theorem dX5_faults_0 : decode cX5_faults 0 = .ok (.iconst 0, 1) := by decide +kernel
theorem dX5_faults_1 : decode cX5_faults 1 = .ok (.istore_n 2, 1) := by decide +kernel
theorem dX5_faults_2 : decode cX5_faults 2 = .ok (.iconst 0, 1) := by decide +kernel
theorem dX5_faults_3 : decode cX5_faults 3 = .ok (.istore_n 3, 1) := by decide +kernel
theorem dX5_faults_4 : decode cX5_faults 4 = .ok (.iload_n 3, 1) := by decide +kernel
theorem dX5_faults_5 : decode cX5_faults 5 = .ok (.aload_n 0, 1) := by decide +kernel
theorem dX5_faults_6 : decode cX5_faults 6 = .ok (.getfield 83, 3) := by decide +kernel
theorem dX5_faults_9 : decode cX5_faults 9 = .ok (.if_icmp .ge 18, 3) := by decide +kernel
theorem dX5_faults_27 : decode cX5_faults 27 = .ok (.iload_n 2, 1) := by decide +kernel
theorem dX5_faults_28 : decode cX5_faults 28 = .ok (.ireturn, 1) := by decide +kernel
set_option maxRecDepth 20000 in
theorem ggX5_faultsOf_X5_needCard : GoodIn wsX5_faultsOf wsX5_needCard := goodIn_ca (goodIn_r _ [5, 6, 7, 8, 56, 57, 58, 59, 60, 61, 62, 63, 64, 65, 66, 67, 68] (by decide +kernel) (by decide +kernel)) (goodIn_sub (fun _ h => List.mem_cons_of_mem _ (List.mem_append_left _ (List.mem_append_right _ h))) (by decide +kernel))
set_option maxRecDepth 20000 in
theorem gX5_faultsOf_X5_needCard : GoodIn wsX5_faultsOf (wsV RX5 95 RX5 yX5_needCard wsX5_needCard) := goodIn_app (goodIn_of _ (by decide +kernel)) ggX5_faultsOf_X5_needCard
theorem dX5_faultsOf_0 : decode cX5_faultsOf 0 = .ok (.aload_n 0, 1) := by decide +kernel
theorem dX5_faultsOf_1 : decode cX5_faultsOf 1 = .ok (.iload_n 1, 1) := by decide +kernel
theorem dX5_faultsOf_2 : decode cX5_faultsOf 2 = .ok (.invokevirtual 95, 3) := by decide +kernel
theorem dX5_firstFault_0 : decode cX5_firstFault 0 = .ok (.iconst 0, 1) := by decide +kernel
theorem dX5_firstFault_1 : decode cX5_firstFault 1 = .ok (.istore_n 1, 1) := by decide +kernel
theorem dX5_firstFault_2 : decode cX5_firstFault 2 = .ok (.iload_n 1, 1) := by decide +kernel
theorem dX5_firstFault_3 : decode cX5_firstFault 3 = .ok (.aload_n 0, 1) := by decide +kernel
theorem dX5_firstFault_4 : decode cX5_firstFault 4 = .ok (.getfield 74, 3) := by decide +kernel
theorem dX5_firstFault_7 : decode cX5_firstFault 7 = .ok (.if_icmp .ge 36, 3) := by decide +kernel
theorem dX5_firstFault_43 : decode cX5_firstFault 43 = .ok (.new 207, 3) := by decide +kernel
theorem dX5_firstFault_46 : decode cX5_firstFault 46 = .ok (.dup, 1) := by decide +kernel
theorem dX5_firstFault_47 : decode cX5_firstFault 47 = .ok (.ldc 223, 2) := by decide +kernel
theorem dX5_firstFault_49 : decode cX5_firstFault 49 = .ok (.invokespecial 211, 3) := by decide +kernel
theorem dX5_firstFault_52 : decode cX5_firstFault 52 = .ok (.athrow, 1) := by decide +kernel
theorem dX5_suspect_0 : decode cX5_suspect 0 = .ok (.iconst 0, 1) := by decide +kernel
theorem dX5_suspect_1 : decode cX5_suspect 1 = .ok (.istore_n 1, 1) := by decide +kernel
theorem dX5_suspect_2 : decode cX5_suspect 2 = .ok (.iconst 0, 1) := by decide +kernel
theorem dX5_suspect_3 : decode cX5_suspect 3 = .ok (.istore_n 2, 1) := by decide +kernel
theorem dX5_suspect_4 : decode cX5_suspect 4 = .ok (.iconst 0, 1) := by decide +kernel
theorem dX5_suspect_5 : decode cX5_suspect 5 = .ok (.istore_n 3, 1) := by decide +kernel
theorem dX5_suspect_6 : decode cX5_suspect 6 = .ok (.iload_n 3, 1) := by decide +kernel
theorem dX5_suspect_7 : decode cX5_suspect 7 = .ok (.aload_n 0, 1) := by decide +kernel
theorem dX5_suspect_8 : decode cX5_suspect 8 = .ok (.getfield 83, 3) := by decide +kernel
theorem dX5_suspect_11 : decode cX5_suspect 11 = .ok (.if_icmp .ge 35, 3) := by decide +kernel
theorem dX5_suspect_46 : decode cX5_suspect 46 = .ok (.iload_n 2, 1) := by decide +kernel
theorem dX5_suspect_47 : decode cX5_suspect 47 = .ok (.ifCond .ne 13, 3) := by decide +kernel
theorem dX5_suspect_50 : decode cX5_suspect 50 = .ok (.new 207, 3) := by decide +kernel
theorem dX5_suspect_53 : decode cX5_suspect 53 = .ok (.dup, 1) := by decide +kernel
theorem dX5_suspect_54 : decode cX5_suspect 54 = .ok (.ldc 223, 2) := by decide +kernel
theorem dX5_suspect_56 : decode cX5_suspect 56 = .ok (.invokespecial 211, 3) := by decide +kernel
theorem dX5_suspect_59 : decode cX5_suspect 59 = .ok (.athrow, 1) := by decide +kernel
set_option maxRecDepth 20000 in
theorem ggX5_ways_X5_needCard : GoodIn wsX5_ways wsX5_needCard := goodIn_ca (goodIn_r _ [9, 10, 11, 12, 47, 48, 49, 50, 51, 52, 53, 54, 55, 56, 57, 58, 59] (by decide +kernel) (by decide +kernel)) (goodIn_sub (fun _ h => List.mem_cons_of_mem _ (List.mem_append_left _ (List.mem_append_right _ h))) (by decide +kernel))
set_option maxRecDepth 20000 in
theorem gX5_ways_X5_needCard : GoodIn wsX5_ways (wsV RX5 95 RX5 yX5_needCard wsX5_needCard) := goodIn_app (goodIn_of _ (by decide +kernel)) ggX5_ways_X5_needCard
theorem dX5_ways_0 : decode cX5_ways 0 = .ok (.aload_n 0, 1) := by decide +kernel
theorem dX5_ways_1 : decode cX5_ways 1 = .ok (.iload_n 1, 1) := by decide +kernel
theorem dX5_ways_2 : decode cX5_ways 2 = .ok (.invokevirtual 95, 3) := by decide +kernel
set_option maxRecDepth 20000 in
theorem ggX5_yarn_X5_needColour : GoodIn wsX5_yarn wsX5_needColour := goodIn_ca (goodIn_r _ [4, 5, 6] (by decide +kernel) (by decide +kernel)) (goodIn_sub (fun _ h => List.mem_cons_of_mem _ (List.mem_append_left _ (List.mem_append_right _ h))) (by decide +kernel))
set_option maxRecDepth 20000 in
theorem gX5_yarn_X5_needColour : GoodIn wsX5_yarn (va_wsS RX5 63 yX5_needColour wsX5_needColour) := goodIn_app (goodIn_of _ (by decide +kernel)) ggX5_yarn_X5_needColour
set_option maxRecDepth 20000 in
theorem ggX5_yarn_X5_yarnOf : GoodIn wsX5_yarn wsX5_yarnOf := goodIn_ca (goodIn_r _ [10, 11, 12, 13, 14, 15, 16, 17, 18, 19, 20, 21, 22, 23, 3, 24, 25, 26, 27, 28, 29, 30, 31, 32, 33, 34, 35, 36, 37, 38, 39, 40, 41, 42, 43, 44, 45, 46, 47] (by decide +kernel) (by decide +kernel)) (goodIn_sub (fun _ h => List.mem_cons_of_mem _ (List.mem_append_right _ h)) (by decide +kernel))
set_option maxRecDepth 20000 in
theorem gX5_yarn_X5_yarnOf : GoodIn wsX5_yarn (wsV RX5 231 RX5 yX5_yarnOf wsX5_yarnOf) := goodIn_app (goodIn_of _ (by decide +kernel)) ggX5_yarn_X5_yarnOf
theorem dX5_yarn_0 : decode cX5_yarn 0 = .ok (.iload_n 1, 1) := by decide +kernel
theorem dX5_yarn_1 : decode cX5_yarn 1 = .ok (.invokestatic 63, 3) := by decide +kernel
theorem dX5_yarn_4 : decode cX5_yarn 4 = .ok (.aload_n 0, 1) := by decide +kernel
theorem dX5_yarn_5 : decode cX5_yarn 5 = .ok (.iload_n 1, 1) := by decide +kernel
theorem dX5_yarn_6 : decode cX5_yarn 6 = .ok (.invokevirtual 231, 3) := by decide +kernel
theorem dX5_yarn_9 : decode cX5_yarn 9 = .ok (.ireturn, 1) := by decide +kernel
theorem dX5_kinds_0 : decode cX5_kinds 0 = .ok (.iconst 0, 1) := by decide +kernel
theorem dX5_kinds_1 : decode cX5_kinds 1 = .ok (.istore_n 1, 1) := by decide +kernel
theorem dX5_kinds_2 : decode cX5_kinds 2 = .ok (.iconst 0, 1) := by decide +kernel
theorem dX5_kinds_3 : decode cX5_kinds 3 = .ok (.istore_n 2, 1) := by decide +kernel
theorem dX5_kinds_4 : decode cX5_kinds 4 = .ok (.iload_n 2, 1) := by decide +kernel
theorem dX5_kinds_5 : decode cX5_kinds 5 = .ok (.aload_n 0, 1) := by decide +kernel
theorem dX5_kinds_6 : decode cX5_kinds 6 = .ok (.getfield 83, 3) := by decide +kernel
theorem dX5_kinds_9 : decode cX5_kinds 9 = .ok (.if_icmp .ge 20, 3) := by decide +kernel
theorem dX5_kinds_29 : decode cX5_kinds 29 = .ok (.iload_n 1, 1) := by decide +kernel
theorem dX5_kinds_30 : decode cX5_kinds 30 = .ok (.ireturn, 1) := by decide +kernel
theorem dX5_weaver_0 : decode cX5_weaver 0 = .ok (.iload_n 1, 1) := by decide +kernel
theorem dX5_weaver_1 : decode cX5_weaver 1 = .ok (.ifCond .lt 9, 3) := by decide +kernel
theorem dX5_weaver_4 : decode cX5_weaver 4 = .ok (.iload_n 1, 1) := by decide +kernel
theorem dX5_weaver_5 : decode cX5_weaver 5 = .ok (.bipush 99, 2) := by decide +kernel
theorem dX5_weaver_7 : decode cX5_weaver 7 = .ok (.if_icmp .le 13, 3) := by decide +kernel
theorem dX5_weaver_10 : decode cX5_weaver 10 = .ok (.new 67, 3) := by decide +kernel
theorem dX5_weaver_13 : decode cX5_weaver 13 = .ok (.dup, 1) := by decide +kernel
theorem dX5_weaver_14 : decode cX5_weaver 14 = .ok (.ldc 237, 2) := by decide +kernel
theorem dX5_weaver_16 : decode cX5_weaver 16 = .ok (.invokespecial 71, 3) := by decide +kernel
theorem dX5_weaver_19 : decode cX5_weaver 19 = .ok (.athrow, 1) := by decide +kernel
theorem dX5_weaver_20 : decode cX5_weaver 20 = .ok (.aload_n 0, 1) := by decide +kernel
theorem dX5_weaver_21 : decode cX5_weaver 21 = .ok (.getfield 239, 3) := by decide +kernel
theorem dX5_weaver_24 : decode cX5_weaver 24 = .ok (.bipush 6, 2) := by decide +kernel
theorem dX5_weaver_26 : decode cX5_weaver 26 = .ok (.if_icmp .lt 13, 3) := by decide +kernel
theorem dX5_weaver_39 : decode cX5_weaver 39 = .ok (.aload_n 0, 1) := by decide +kernel
theorem dX5_weaver_40 : decode cX5_weaver 40 = .ok (.getfield 52, 3) := by decide +kernel
theorem dX5_weaver_43 : decode cX5_weaver 43 = .ok (.aload_n 0, 1) := by decide +kernel
theorem dX5_weaver_44 : decode cX5_weaver 44 = .ok (.getfield 239, 3) := by decide +kernel
theorem dX5_weaver_47 : decode cX5_weaver 47 = .ok (.iload_n 1, 1) := by decide +kernel
theorem dX5_weaver_48 : decode cX5_weaver 48 = .ok (.iastore, 1) := by decide +kernel
theorem dX5_weaver_49 : decode cX5_weaver 49 = .ok (.aload_n 0, 1) := by decide +kernel
theorem dX5_weaver_50 : decode cX5_weaver 50 = .ok (.dup, 1) := by decide +kernel
theorem dX5_weaver_51 : decode cX5_weaver 51 = .ok (.getfield 239, 3) := by decide +kernel
theorem dX5_weaver_54 : decode cX5_weaver 54 = .ok (.iconst 1, 1) := by decide +kernel
theorem dX5_weaver_55 : decode cX5_weaver 55 = .ok (.iadd, 1) := by decide +kernel
theorem dX5_weaver_56 : decode cX5_weaver 56 = .ok (.putfield 239, 3) := by decide +kernel
theorem dX5_weaver_59 : decode cX5_weaver 59 = .ok (.aload_n 0, 1) := by decide +kernel
theorem dX5_weaver_60 : decode cX5_weaver 60 = .ok (.getfield 239, 3) := by decide +kernel
