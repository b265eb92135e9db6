def RX0 : String := "StoppingPlanner$History"
def TX0 : u_T := fun k => match k with
  | 0 => ("StoppingPlanner$History", "states", "[I", true)
  | _ => ("StoppingPlanner$History", "size", "I", false)
def tyX0 : Nat → FieldType := fun k => match k with
  | 0 => .array .int
  | _ => .int
abbrev wsX00 : List Cond := u_ws RX0 TX0 2
theorem nmX0 : ∀ a, a < 2 → ∀ b, b < 2 → a ≠ b → (TX0 a).2.1 ≠ (TX0 b).2.1 := by decide +kernel
theorem tyX0_ok : ∀ k, k < 2 → parseFieldDescriptor (TX0 k).2.2.1 = some (tyX0 k) := by decide +kernel
abbrev cX0_init : ByteArray := prog_2_method_1_code
def yX0_init : MethodName := ⟨RX0, "<init>", "()V"⟩
abbrev cX0_size : ByteArray := prog_2_method_2_code
def yX0_size : MethodName := ⟨RX0, "size", "()I"⟩
abbrev cX0_record : ByteArray := prog_2_method_3_code
def yX0_record : MethodName := ⟨RX0, "record", "([I)V"⟩
abbrev cX0_restore : ByteArray := prog_2_method_4_code
def yX0_restore : MethodName := ⟨RX0, "restore", "([I)V"⟩
def RX1 : String := "StoppingPlanner$RankProblem"
def TX1 : u_T := fun k => match k with
  | 0 => ("StoppingPlanner$RankProblem", "worths", "[J", true)
  | 1 => ("StoppingPlanner$RankProblem", "befores", "[J", true)
  | 2 => ("StoppingPlanner$RankProblem", "followed", "[J", true)
  | 3 => ("StoppingPlanner$RankProblem", "solved", "Z", false)
  | 4 => ("StoppingPlanner$RankProblem", "n", "I", false)
  | _ => ("StoppingPlanner$RankProblem", "cost", "J", false)
def tyX1 : Nat → FieldType := fun k => match k with
  | 0 => .array .long
  | 1 => .array .long
  | 2 => .array .long
  | 3 => .boolean
  | 4 => .int
  | _ => .long
abbrev wsX10 : List Cond := u_ws RX1 TX1 6
theorem nmX1 : ∀ a, a < 6 → ∀ b, b < 6 → a ≠ b → (TX1 a).2.1 ≠ (TX1 b).2.1 := by decide +kernel
theorem tyX1_ok : ∀ k, k < 6 → parseFieldDescriptor (TX1 k).2.2.1 = some (tyX1 k) := by decide +kernel
abbrev cX1_init : ByteArray := prog_3_method_1_code
def yX1_init : MethodName := ⟨RX1, "<init>", "()V"⟩
abbrev cX1_worthOf : ByteArray := prog_3_method_2_code
def yX1_worthOf : MethodName := ⟨RX1, "worthOf", "(II)J"⟩
abbrev cX1_valueBefore : ByteArray := prog_3_method_3_code
def yX1_valueBefore : MethodName := ⟨RX1, "valueBefore", "(II)J"⟩
abbrev cX1_takes : ByteArray := prog_3_method_4_code
def yX1_takes : MethodName := ⟨RX1, "takes", "(III)Z"⟩
abbrev cX1_forget : ByteArray := prog_3_method_5_code
def yX1_forget : MethodName := ⟨RX1, "forget", "()V"⟩
abbrev cX1_solve : ByteArray := prog_3_method_6_code
def yX1_solve : MethodName := ⟨RX1, "solve", "([I)V"⟩
abbrev cX1_expected : ByteArray := prog_3_method_7_code
def yX1_expected : MethodName := ⟨RX1, "expected", "(II)J"⟩
abbrev cX1_valueOfSkipping : ByteArray := prog_3_method_8_code
def yX1_valueOfSkipping : MethodName := ⟨RX1, "valueOfSkipping", "(II)J"⟩
abbrev cX1_place : ByteArray := prog_3_method_9_code
def yX1_place : MethodName := ⟨RX1, "place", "(II)I"⟩
abbrev cX1_binomial : ByteArray := prog_3_method_10_code
def yX1_binomial : MethodName := ⟨RX1, "binomial", "(II)I"⟩
abbrev cX1_clearEnds : ByteArray := prog_3_method_11_code
def yX1_clearEnds : MethodName := ⟨RX1, "clearEnds", "([J)V"⟩
abbrev cX1_computeWorth : ByteArray := prog_3_method_12_code
def yX1_computeWorth : MethodName := ⟨RX1, "computeWorth", "([III)J"⟩
abbrev cX1_meanOfBest : ByteArray := prog_3_method_13_code
def yX1_meanOfBest : MethodName := ⟨RX1, "meanOfBest", "(II)J"⟩
abbrev cX1_meanFollowed : ByteArray := prog_3_method_14_code
def yX1_meanFollowed : MethodName := ⟨RX1, "meanFollowed", "(IIZ)J"⟩
def RX2 : String := "StoppingPlanner$Simulation"
def TX2 : u_T := fun k => match k with
  | 0 => ("StoppingPlanner$Simulation", "results", "[I", true)
  | 1 => ("StoppingPlanner$Simulation", "relativeRanks", "[I", true)
  | 2 => ("StoppingPlanner$Simulation", "finalRanks", "[I", true)
  | _ => ("StoppingPlanner$Simulation", "z", "I", false)
def tyX2 : Nat → FieldType := fun k => match k with
  | 0 => .array .int
  | 1 => .array .int
  | 2 => .array .int
  | _ => .int
abbrev wsX20 : List Cond := u_ws RX2 TX2 4
theorem nmX2 : ∀ a, a < 4 → ∀ b, b < 4 → a ≠ b → (TX2 a).2.1 ≠ (TX2 b).2.1 := by decide +kernel
theorem tyX2_ok : ∀ k, k < 4 → parseFieldDescriptor (TX2 k).2.2.1 = some (tyX2 k) := by decide +kernel
abbrev cX2_init : ByteArray := prog_4_method_1_code
def yX2_init : MethodName := ⟨RX2, "<init>", "()V"⟩
abbrev cX2_resultOf : ByteArray := prog_4_method_2_code
def yX2_resultOf : MethodName := ⟨RX2, "resultOf", "(I)I"⟩
abbrev cX2_runRanks : ByteArray := prog_4_method_3_code
def yX2_runRanks : MethodName := ⟨RX2, "runRanks", "(LStoppingPlanner$RankProblem;[II)V"⟩
abbrev cX2_runValues : ByteArray := prog_4_method_4_code
def yX2_runValues : MethodName := ⟨RX2, "runValues", "(LStoppingPlanner$ValueProblem;[II)V"⟩
abbrev cX2_begin : ByteArray := prog_4_method_5_code
def yX2_begin : MethodName := ⟨RX2, "begin", "(I)V"⟩
abbrev cX2_draw : ByteArray := prog_4_method_6_code
def yX2_draw : MethodName := ⟨RX2, "draw", "()I"⟩
abbrev cX2_drawRanks : ByteArray := prog_4_method_7_code
def yX2_drawRanks : MethodName := ⟨RX2, "drawRanks", "(I)V"⟩
abbrev cX2_recallSucceeds : ByteArray := prog_4_method_8_code
def yX2_recallSucceeds : MethodName := ⟨RX2, "recallSucceeds", "(I)Z"⟩
abbrev cX2_drawLevel : ByteArray := prog_4_method_9_code
def yX2_drawLevel : MethodName := ⟨RX2, "drawLevel", "([I)I"⟩
def RX3 : String := "StoppingPlanner$Text"
def TX3 : u_T := fun k => match k with
  | 0 => ("StoppingPlanner$Text", "codes", "[I", true)
  | 1 => ("StoppingPlanner$Text", "staged", "[I", true)
  | 2 => ("StoppingPlanner$Text", "size", "I", false)
  | 3 => ("StoppingPlanner$Text", "fault", "I", false)
  | 4 => ("StoppingPlanner$Text", "faultPosition", "I", false)
  | 5 => ("StoppingPlanner$Text", "items", "I", false)
  | 6 => ("StoppingPlanner$Text", "item", "I", false)
  | 7 => ("StoppingPlanner$Text", "numbers", "I", false)
  | 8 => ("StoppingPlanner$Text", "digits", "I", false)
  | 9 => ("StoppingPlanner$Text", "number", "I", false)
  | _ => ("StoppingPlanner$Text", "numberPosition", "I", false)
def tyX3 : Nat → FieldType := fun k => match k with
  | 0 => .array .int
  | 1 => .array .int
  | 2 => .int
  | 3 => .int
  | 4 => .int
  | 5 => .int
  | 6 => .int
  | 7 => .int
  | 8 => .int
  | 9 => .int
  | _ => .int
abbrev wsX30 : List Cond := u_ws RX3 TX3 11
theorem nmX3 : ∀ a, a < 11 → ∀ b, b < 11 → a ≠ b → (TX3 a).2.1 ≠ (TX3 b).2.1 := by decide +kernel
theorem tyX3_ok : ∀ k, k < 11 → parseFieldDescriptor (TX3 k).2.2.1 = some (tyX3 k) := by decide +kernel
abbrev cX3_init : ByteArray := prog_5_method_1_code
def yX3_init : MethodName := ⟨RX3, "<init>", "()V"⟩
abbrev cX3_size : ByteArray := prog_5_method_2_code
def yX3_size : MethodName := ⟨RX3, "size", "()I"⟩
abbrev cX3_isFull : ByteArray := prog_5_method_3_code
def yX3_isFull : MethodName := ⟨RX3, "isFull", "()Z"⟩
abbrev cX3_append : ByteArray := prog_5_method_4_code
def yX3_append : MethodName := ⟨RX3, "append", "(I)I"⟩
abbrev cX3_empty : ByteArray := prog_5_method_5_code
def yX3_empty : MethodName := ⟨RX3, "empty", "()I"⟩
abbrev cX3_kindOfFault : ByteArray := prog_5_method_6_code
def yX3_kindOfFault : MethodName := ⟨RX3, "kindOfFault", "()I"⟩
abbrev cX3_positionOfFault : ByteArray := prog_5_method_7_code
def yX3_positionOfFault : MethodName := ⟨RX3, "positionOfFault", "()I"⟩
abbrev cX3_countOfItems : ByteArray := prog_5_method_8_code
def yX3_countOfItems : MethodName := ⟨RX3, "countOfItems", "()I"⟩
abbrev cX3_giveParameters : ByteArray := prog_5_method_9_code
def yX3_giveParameters : MethodName := ⟨RX3, "giveParameters", "([I)V"⟩
abbrev cX3_read : ByteArray := prog_5_method_10_code
def yX3_read : MethodName := ⟨RX3, "read", "([I)V"⟩
abbrev cX3_readCharacter : ByteArray := prog_5_method_11_code
def yX3_readCharacter : MethodName := ⟨RX3, "readCharacter", "(II)V"⟩
abbrev cX3_readDigit : ByteArray := prog_5_method_12_code
def yX3_readDigit : MethodName := ⟨RX3, "readDigit", "(II)V"⟩
abbrev cX3_endNumber : ByteArray := prog_5_method_13_code
def yX3_endNumber : MethodName := ⟨RX3, "endNumber", "()V"⟩
abbrev cX3_beginItem : ByteArray := prog_5_method_14_code
def yX3_beginItem : MethodName := ⟨RX3, "beginItem", "(II)V"⟩
abbrev cX3_endItem : ByteArray := prog_5_method_15_code
def yX3_endItem : MethodName := ⟨RX3, "endItem", "(I)V"⟩
abbrev cX3_indexOfLetter : ByteArray := prog_5_method_16_code
def yX3_indexOfLetter : MethodName := ⟨RX3, "indexOfLetter", "(I)I"⟩
abbrev cX3_endsWrongWeights : ByteArray := prog_5_method_17_code
def yX3_endsWrongWeights : MethodName := ⟨RX3, "endsWrongWeights", "()Z"⟩
abbrev cX3_clearOtherPayoffs : ByteArray := prog_5_method_18_code
def yX3_clearOtherPayoffs : MethodName := ⟨RX3, "clearOtherPayoffs", "()V"⟩
abbrev cX3_setFault : ByteArray := prog_5_method_19_code
def yX3_setFault : MethodName := ⟨RX3, "setFault", "(II)V"⟩
def RX4 : String := "StoppingPlanner$ValueProblem"
def TX4 : u_T := fun k => match k with
  | 0 => ("StoppingPlanner$ValueProblem", "withRecall", "Z", true)
  | 1 => ("StoppingPlanner$ValueProblem", "befores", "[J", true)
  | 2 => ("StoppingPlanner$ValueProblem", "afters", "[J", true)
  | 3 => ("StoppingPlanner$ValueProblem", "followed", "[J", true)
  | 4 => ("StoppingPlanner$ValueProblem", "levels", "[J", true)
  | 5 => ("StoppingPlanner$ValueProblem", "weights", "[I", true)
  | 6 => ("StoppingPlanner$ValueProblem", "solved", "Z", false)
  | 7 => ("StoppingPlanner$ValueProblem", "n", "I", false)
  | 8 => ("StoppingPlanner$ValueProblem", "cost", "J", false)
  | 9 => ("StoppingPlanner$ValueProblem", "chanceOfAge1", "I", false)
  | _ => ("StoppingPlanner$ValueProblem", "chanceOfAge2", "I", false)
def tyX4 : Nat → FieldType := fun k => match k with
  | 0 => .boolean
  | 1 => .array .long
  | 2 => .array .long
  | 3 => .array .long
  | 4 => .array .long
  | 5 => .array .int
  | 6 => .boolean
  | 7 => .int
  | 8 => .long
  | 9 => .int
  | _ => .int
abbrev wsX40 : List Cond := u_ws RX4 TX4 11
theorem nmX4 : ∀ a, a < 11 → ∀ b, b < 11 → a ≠ b → (TX4 a).2.1 ≠ (TX4 b).2.1 := by decide +kernel
theorem tyX4_ok : ∀ k, k < 11 → parseFieldDescriptor (TX4 k).2.2.1 = some (tyX4 k) := by decide +kernel
abbrev cX4_init : ByteArray := prog_6_method_1_code
def yX4_init : MethodName := ⟨RX4, "<init>", "(Z)V"⟩
abbrev cX4_valueBefore : ByteArray := prog_6_method_2_code
def yX4_valueBefore : MethodName := ⟨RX4, "valueBefore", "(IIII)J"⟩
abbrev cX4_valueAfterRecall : ByteArray := prog_6_method_3_code
def yX4_valueAfterRecall : MethodName := ⟨RX4, "valueAfterRecall", "(III)J"⟩
abbrev cX4_takes : ByteArray := prog_6_method_4_code
def yX4_takes : MethodName := ⟨RX4, "takes", "(IIII)Z"⟩
abbrev cX4_bestRecall : ByteArray := prog_6_method_5_code
def yX4_bestRecall : MethodName := ⟨RX4, "bestRecall", "(IIII)I"⟩
abbrev cX4_forget : ByteArray := prog_6_method_6_code
def yX4_forget : MethodName := ⟨RX4, "forget", "()V"⟩
abbrev cX4_solve : ByteArray := prog_6_method_7_code
def yX4_solve : MethodName := ⟨RX4, "solve", "([I)V"⟩
abbrev cX4_valueOfFixed : ByteArray := prog_6_method_8_code
def yX4_valueOfFixed : MethodName := ⟨RX4, "valueOfFixed", "(II)J"⟩
abbrev cX4_place : ByteArray := prog_6_method_9_code
def yX4_place : MethodName := ⟨RX4, "place", "(II)I"⟩
abbrev cX4_placeAfter : ByteArray := prog_6_method_10_code
def yX4_placeAfter : MethodName := ⟨RX4, "placeAfter", "(III)I"⟩
abbrev cX4_placeBefore : ByteArray := prog_6_method_11_code
def yX4_placeBefore : MethodName := ⟨RX4, "placeBefore", "(IIII)I"⟩
abbrev cX4_readParameters : ByteArray := prog_6_method_12_code
def yX4_readParameters : MethodName := ⟨RX4, "readParameters", "([I)V"⟩
abbrev cX4_solveAfters : ByteArray := prog_6_method_13_code
def yX4_solveAfters : MethodName := ⟨RX4, "solveAfters", "(II)V"⟩
abbrev cX4_solveBefores : ByteArray := prog_6_method_14_code
def yX4_solveBefores : MethodName := ⟨RX4, "solveBefores", "(II)V"⟩
abbrev cX4_recallOfAge1 : ByteArray := prog_6_method_15_code
def yX4_recallOfAge1 : MethodName := ⟨RX4, "recallOfAge1", "(III)J"⟩
abbrev cX4_recallOfAge2 : ByteArray := prog_6_method_16_code
def yX4_recallOfAge2 : MethodName := ⟨RX4, "recallOfAge2", "(IIII)J"⟩
abbrev cX4_meanOfBest : ByteArray := prog_6_method_17_code
def yX4_meanOfBest : MethodName := ⟨RX4, "meanOfBest", "(III)J"⟩
abbrev cX4_meanOfFixed : ByteArray := prog_6_method_18_code
def yX4_meanOfFixed : MethodName := ⟨RX4, "meanOfFixed", "(III)J"⟩
def RX5 : String := "StoppingPlanner"
def TX5 : u_T := fun k => match k with
  | 0 => ("StoppingPlanner", "parameters", "[I", true)
  | 1 => ("StoppingPlanner", "text", "LStoppingPlanner$Text;", true)
  | 2 => ("StoppingPlanner", "history", "LStoppingPlanner$History;", true)
  | 3 => ("StoppingPlanner", "ranks", "LStoppingPlanner$RankProblem;", true)
  | 4 => ("StoppingPlanner", "values", "LStoppingPlanner$ValueProblem;", true)
  | 5 => ("StoppingPlanner", "valuesWithoutRecall", "LStoppingPlanner$ValueProblem;", true)
  | 6 => ("StoppingPlanner", "simulation", "LStoppingPlanner$Simulation;", true)
  | 7 => ("StoppingPlanner", "latestFault", "I", false)
  | _ => ("StoppingPlanner", "latestDenominator", "J", false)
def tyX5 : Nat → FieldType := fun k => match k with
  | 0 => .array .int
  | 1 => .object "StoppingPlanner$Text"
  | 2 => .object "StoppingPlanner$History"
  | 3 => .object "StoppingPlanner$RankProblem"
  | 4 => .object "StoppingPlanner$ValueProblem"
  | 5 => .object "StoppingPlanner$ValueProblem"
  | 6 => .object "StoppingPlanner$Simulation"
  | 7 => .int
  | _ => .long
abbrev wsX50 : List Cond := u_ws RX5 TX5 9
theorem nmX5 : ∀ a, a < 9 → ∀ b, b < 9 → a ≠ b → (TX5 a).2.1 ≠ (TX5 b).2.1 := by decide +kernel
theorem tyX5_ok : ∀ k, k < 9 → parseFieldDescriptor (TX5 k).2.2.1 = some (tyX5 k) := by decide +kernel
abbrev cX5_init : ByteArray := prog_1_method_1_code
def yX5_init : MethodName := ⟨RX5, "<init>", "()V"⟩
abbrev cX5_type : ByteArray := prog_1_method_2_code
def yX5_type : MethodName := ⟨RX5, "type", "(I)I"⟩
abbrev cX5_clearText : ByteArray := prog_1_method_3_code
def yX5_clearText : MethodName := ⟨RX5, "clearText", "()I"⟩
abbrev cX5_load : ByteArray := prog_1_method_4_code
def yX5_load : MethodName := ⟨RX5, "load", "()I"⟩
abbrev cX5_faultKind : ByteArray := prog_1_method_5_code
def yX5_faultKind : MethodName := ⟨RX5, "faultKind", "()I"⟩
abbrev cX5_setCount : ByteArray := prog_1_method_6_code
def yX5_setCount : MethodName := ⟨RX5, "setCount", "(II)I"⟩
abbrev cX5_setPayoff : ByteArray := prog_1_method_7_code
def yX5_setPayoff : MethodName := ⟨RX5, "setPayoff", "(II)I"⟩
abbrev cX5_setLevel : ByteArray := prog_1_method_8_code
def yX5_setLevel : MethodName := ⟨RX5, "setLevel", "(II)I"⟩
abbrev cX5_setRecall : ByteArray := prog_1_method_9_code
def yX5_setRecall : MethodName := ⟨RX5, "setRecall", "(II)I"⟩
abbrev cX5_shiftWeight : ByteArray := prog_1_method_10_code
def yX5_shiftWeight : MethodName := ⟨RX5, "shiftWeight", "(III)I"⟩
abbrev cX5_parameter : ByteArray := prog_1_method_11_code
def yX5_parameter : MethodName := ⟨RX5, "parameter", "(I)I"⟩
abbrev cX5_worth : ByteArray := prog_1_method_12_code
def yX5_worth : MethodName := ⟨RX5, "worth", "(II)J"⟩
abbrev cX5_rankValue : ByteArray := prog_1_method_13_code
def yX5_rankValue : MethodName := ⟨RX5, "rankValue", "(II)J"⟩
abbrev cX5_choosesRank : ByteArray := prog_1_method_14_code
def yX5_choosesRank : MethodName := ⟨RX5, "choosesRank", "(III)I"⟩
abbrev cX5_rankThreshold : ByteArray := prog_1_method_15_code
def yX5_rankThreshold : MethodName := ⟨RX5, "rankThreshold", "(II)I"⟩
abbrev cX5_rankExpectation : ByteArray := prog_1_method_16_code
def yX5_rankExpectation : MethodName := ⟨RX5, "rankExpectation", "(I)J"⟩
abbrev cX5_skipping : ByteArray := prog_1_method_17_code
def yX5_skipping : MethodName := ⟨RX5, "skipping", "(I)J"⟩
abbrev cX5_bestSkip : ByteArray := prog_1_method_18_code
def yX5_bestSkip : MethodName := ⟨RX5, "bestSkip", "()I"⟩
abbrev cX5_situation : ByteArray := prog_1_method_19_code
def yX5_situation : MethodName := ⟨RX5, "situation", "(IIII)J"⟩
abbrev cX5_recalls : ByteArray := prog_1_method_20_code
def yX5_recalls : MethodName := ⟨RX5, "recalls", "(IIII)I"⟩
abbrev cX5_observes : ByteArray := prog_1_method_21_code
def yX5_observes : MethodName := ⟨RX5, "observes", "(IIII)I"⟩
abbrev cX5_choosesLevel : ByteArray := prog_1_method_22_code
def yX5_choosesLevel : MethodName := ⟨RX5, "choosesLevel", "(IIII)I"⟩
abbrev cX5_valueThreshold : ByteArray := prog_1_method_23_code
def yX5_valueThreshold : MethodName := ⟨RX5, "valueThreshold", "(III)I"⟩
abbrev cX5_fixed : ByteArray := prog_1_method_24_code
def yX5_fixed : MethodName := ⟨RX5, "fixed", "(I)J"⟩
abbrev cX5_bestFixed : ByteArray := prog_1_method_25_code
def yX5_bestFixed : MethodName := ⟨RX5, "bestFixed", "()I"⟩
abbrev cX5_recallGain : ByteArray := prog_1_method_26_code
def yX5_recallGain : MethodName := ⟨RX5, "recallGain", "()J"⟩
abbrev cX5_price : ByteArray := prog_1_method_27_code
def yX5_price : MethodName := ⟨RX5, "price", "(Z)J"⟩
abbrev cX5_denominator : ByteArray := prog_1_method_28_code
def yX5_denominator : MethodName := ⟨RX5, "denominator", "()J"⟩
abbrev cX5_simulateRanks : ByteArray := prog_1_method_29_code
def yX5_simulateRanks : MethodName := ⟨RX5, "simulateRanks", "(II)I"⟩
abbrev cX5_simulateValues : ByteArray := prog_1_method_30_code
def yX5_simulateValues : MethodName := ⟨RX5, "simulateValues", "(II)I"⟩
abbrev cX5_undo : ByteArray := prog_1_method_31_code
def yX5_undo : MethodName := ⟨RX5, "undo", "()I"⟩
abbrev cX5_count : ByteArray := prog_1_method_32_code
def yX5_count : MethodName := ⟨RX5, "count", "(I)I"⟩
abbrev cX5_digest : ByteArray := prog_1_method_33_code
def yX5_digest : MethodName := ⟨RX5, "digest", "()J"⟩
abbrev cX5_candidates : ByteArray := prog_1_method_34_code
def yX5_candidates : MethodName := ⟨RX5, "candidates", "()I"⟩
abbrev cX5_choices : ByteArray := prog_1_method_35_code
def yX5_choices : MethodName := ⟨RX5, "choices", "()I"⟩
abbrev cX5_isNoCandidate : ByteArray := prog_1_method_36_code
def yX5_isNoCandidate : MethodName := ⟨RX5, "isNoCandidate", "(I)Z"⟩
abbrev cX5_isNoPlace : ByteArray := prog_1_method_37_code
def yX5_isNoPlace : MethodName := ⟨RX5, "isNoPlace", "(I)Z"⟩
abbrev cX5_isNoNumberLeft : ByteArray := prog_1_method_38_code
def yX5_isNoNumberLeft : MethodName := ⟨RX5, "isNoNumberLeft", "(I)Z"⟩
abbrev cX5_isNoChoiceLeft : ByteArray := prog_1_method_39_code
def yX5_isNoChoiceLeft : MethodName := ⟨RX5, "isNoChoiceLeft", "(I)Z"⟩
abbrev cX5_isNoSituation : ByteArray := prog_1_method_40_code
def yX5_isNoSituation : MethodName := ⟨RX5, "isNoSituation", "(IIII)Z"⟩
abbrev cX5_isNoLevel : ByteArray := prog_1_method_41_code
def yX5_isNoLevel : MethodName := ⟨RX5, "isNoLevel", "(I)Z"⟩
abbrev cX5_isNoMemory : ByteArray := prog_1_method_42_code
def yX5_isNoMemory : MethodName := ⟨RX5, "isNoMemory", "(I)Z"⟩
abbrev cX5_change : ByteArray := prog_1_method_43_code
def yX5_change : MethodName := ⟨RX5, "change", "(II)I"⟩
abbrev cX5_beginChange : ByteArray := prog_1_method_44_code
def yX5_beginChange : MethodName := ⟨RX5, "beginChange", "()V"⟩
abbrev cX5_forgetSolutions : ByteArray := prog_1_method_45_code
def yX5_forgetSolutions : MethodName := ⟨RX5, "forgetSolutions", "()V"⟩
abbrev cX5_priceOfValues : ByteArray := prog_1_method_46_code
def yX5_priceOfValues : MethodName := ⟨RX5, "priceOfValues", "()J"⟩
abbrev cX5_priceOfRanks : ByteArray := prog_1_method_47_code
def yX5_priceOfRanks : MethodName := ⟨RX5, "priceOfRanks", "()J"⟩
abbrev cX5_isValueOfLevel : ByteArray := prog_1_method_48_code
def yX5_isValueOfLevel : MethodName := ⟨RX5, "isValueOfLevel", "(I)Z"⟩
abbrev cX5_countWeightedLevels : ByteArray := prog_1_method_49_code
def yX5_countWeightedLevels : MethodName := ⟨RX5, "countWeightedLevels", "()I"⟩
abbrev cX5_countQuits : ByteArray := prog_1_method_50_code
def yX5_countQuits : MethodName := ⟨RX5, "countQuits", "()I"⟩
abbrev cX5_fraction : ByteArray := prog_1_method_51_code
def yX5_fraction : MethodName := ⟨RX5, "fraction", "(JJ)J"⟩
abbrev cX5_commonDivisor : ByteArray := prog_1_method_52_code
def yX5_commonDivisor : MethodName := ⟨RX5, "commonDivisor", "(JJ)J"⟩
abbrev cX5_mix : ByteArray := prog_1_method_53_code
def yX5_mix : MethodName := ⟨RX5, "mix", "(JJ)J"⟩
abbrev cX5_mixFraction : ByteArray := prog_1_method_54_code
def yX5_mixFraction : MethodName := ⟨RX5, "mixFraction", "(JJ)J"⟩
abbrev cX5_mixRankValues : ByteArray := prog_1_method_55_code
def yX5_mixRankValues : MethodName := ⟨RX5, "mixRankValues", "(J)J"⟩
abbrev cX5_mixRankPolicy : ByteArray := prog_1_method_56_code
def yX5_mixRankPolicy : MethodName := ⟨RX5, "mixRankPolicy", "(J)J"⟩
abbrev cX5_mixSituations : ByteArray := prog_1_method_57_code
def yX5_mixSituations : MethodName := ⟨RX5, "mixSituations", "(J)J"⟩
abbrev cX5_mixValuePolicy : ByteArray := prog_1_method_58_code
def yX5_mixValuePolicy : MethodName := ⟨RX5, "mixValuePolicy", "(J)J"⟩
def RX6 : String := "StoppingPlannerModel"
def TX6 : u_T := fun k => match k with
  | 0 => ("StoppingPlannerModel", "row", "[I", true)
  | 1 => ("StoppingPlannerModel", "backs", "[I", true)
  | 2 => ("StoppingPlannerModel", "backMany", "I", false)
  | 3 => ("StoppingPlannerModel", "under", "J", false)
  | 4 => ("StoppingPlannerModel", "text", "[I", true)
  | 5 => ("StoppingPlannerModel", "typed", "I", false)
  | 6 => ("StoppingPlannerModel", "draft", "[I", true)
  | 7 => ("StoppingPlannerModel", "spot", "I", false)
  | 8 => ("StoppingPlannerModel", "fault", "I", false)
  | 9 => ("StoppingPlannerModel", "faultAt", "I", false)
  | 10 => ("StoppingPlannerModel", "known", "Z", false)
  | 11 => ("StoppingPlannerModel", "worths", "[J", true)
  | 12 => ("StoppingPlannerModel", "rankValues", "[J", true)
  | 13 => ("StoppingPlannerModel", "stays", "[J", true)
  | 14 => ("StoppingPlannerModel", "goes", "[J", true)
  | 15 => ("StoppingPlannerModel", "expected", "[J", true)
  | 16 => ("StoppingPlannerModel", "drawn", "I", false)
  | 17 => ("StoppingPlannerModel", "relative", "[I", true)
  | 18 => ("StoppingPlannerModel", "ranked", "[I", true)
  | 19 => ("StoppingPlannerModel", "left", "I", false)
  | 20 => ("StoppingPlannerModel", "young", "I", false)
  | 21 => ("StoppingPlannerModel", "old", "I", false)
  | 22 => ("StoppingPlannerModel", "came", "[I", true)
  | _ => ("StoppingPlannerModel", "hash", "J", false)
def tyX6 : Nat → FieldType := fun k => match k with
  | 0 => .array .int
  | 1 => .array .int
  | 2 => .int
  | 3 => .long
  | 4 => .array .int
  | 5 => .int
  | 6 => .array .int
  | 7 => .int
  | 8 => .int
  | 9 => .int
  | 10 => .boolean
  | 11 => .array .long
  | 12 => .array .long
  | 13 => .array .long
  | 14 => .array .long
  | 15 => .array .long
  | 16 => .int
  | 17 => .array .int
  | 18 => .array .int
  | 19 => .int
  | 20 => .int
  | 21 => .int
  | 22 => .array .int
  | _ => .long
abbrev wsX60 : List Cond := u_ws RX6 TX6 24
theorem nmX6 : ∀ a, a < 24 → ∀ b, b < 24 → a ≠ b → (TX6 a).2.1 ≠ (TX6 b).2.1 := by decide +kernel
theorem tyX6_ok : ∀ k, k < 24 → parseFieldDescriptor (TX6 k).2.2.1 = some (tyX6 k) := by decide +kernel
abbrev cX6_init : ByteArray := prog_8_method_1_code
def yX6_init : MethodName := ⟨RX6, "<init>", "()V"⟩
abbrev cX6_in : ByteArray := prog_8_method_3_code
def yX6_in : MethodName := ⟨RX6, "in", "(III)Z"⟩
abbrev cX6_n : ByteArray := prog_8_method_4_code
def yX6_n : MethodName := ⟨RX6, "n", "()I"⟩
abbrev cX6_k : ByteArray := prog_8_method_5_code
def yX6_k : MethodName := ⟨RX6, "k", "()I"⟩
abbrev cX6_begins : ByteArray := prog_8_method_6_code
def yX6_begins : MethodName := ⟨RX6, "begins", "()V"⟩
abbrev cX6_undo : ByteArray := prog_8_method_7_code
def yX6_undo : MethodName := ⟨RX6, "undo", "()I"⟩
abbrev cX6_sets : ByteArray := prog_8_method_8_code
def yX6_sets : MethodName := ⟨RX6, "sets", "(II)I"⟩
abbrev cX6_leastOf : ByteArray := prog_8_method_9_code
def yX6_leastOf : MethodName := ⟨RX6, "leastOf", "(I)I"⟩
abbrev cX6_mostOf : ByteArray := prog_8_method_10_code
def yX6_mostOf : MethodName := ⟨RX6, "mostOf", "(I)I"⟩
abbrev cX6_isRight : ByteArray := prog_8_method_11_code
def yX6_isRight : MethodName := ⟨RX6, "isRight", "(II)Z"⟩
abbrev cX6_setCount : ByteArray := prog_8_method_12_code
def yX6_setCount : MethodName := ⟨RX6, "setCount", "(II)I"⟩
abbrev cX6_setPayoff : ByteArray := prog_8_method_13_code
def yX6_setPayoff : MethodName := ⟨RX6, "setPayoff", "(II)I"⟩
abbrev cX6_setLevel : ByteArray := prog_8_method_14_code
def yX6_setLevel : MethodName := ⟨RX6, "setLevel", "(II)I"⟩
abbrev cX6_setRecall : ByteArray := prog_8_method_15_code
def yX6_setRecall : MethodName := ⟨RX6, "setRecall", "(II)I"⟩
abbrev cX6_shiftWeight : ByteArray := prog_8_method_16_code
def yX6_shiftWeight : MethodName := ⟨RX6, "shiftWeight", "(III)I"⟩
abbrev cX6_parameter : ByteArray := prog_8_method_17_code
def yX6_parameter : MethodName := ⟨RX6, "parameter", "(I)I"⟩
abbrev cX6_type : ByteArray := prog_8_method_18_code
def yX6_type : MethodName := ⟨RX6, "type", "(I)I"⟩
abbrev cX6_clearText : ByteArray := prog_8_method_19_code
def yX6_clearText : MethodName := ⟨RX6, "clearText", "()I"⟩
abbrev cX6_here : ByteArray := prog_8_method_20_code
def yX6_here : MethodName := ⟨RX6, "here", "()I"⟩
abbrev cX6_skips : ByteArray := prog_8_method_21_code
def yX6_skips : MethodName := ⟨RX6, "skips", "()V"⟩
abbrev cX6_fails : ByteArray := prog_8_method_22_code
def yX6_fails : MethodName := ⟨RX6, "fails", "(II)V"⟩
abbrev cX6_placeOf : ByteArray := prog_8_method_23_code
def yX6_placeOf : MethodName := ⟨RX6, "placeOf", "(I)I"⟩
abbrev cX6_numbersOf : ByteArray := prog_8_method_24_code
def yX6_numbersOf : MethodName := ⟨RX6, "numbersOf", "(I)I"⟩
abbrev cX6_readsNumber : ByteArray := prog_8_method_25_code
def yX6_readsNumber : MethodName := ⟨RX6, "readsNumber", "(II)V"⟩
abbrev cX6_ends : ByteArray := prog_8_method_26_code
def yX6_ends : MethodName := ⟨RX6, "ends", "(II)V"⟩
abbrev cX6_readsItem : ByteArray := prog_8_method_27_code
def yX6_readsItem : MethodName := ⟨RX6, "readsItem", "()V"⟩
abbrev cX6_load : ByteArray := prog_8_method_28_code
def yX6_load : MethodName := ⟨RX6, "load", "()I"⟩
abbrev cX6_faultKind : ByteArray := prog_8_method_29_code
def yX6_faultKind : MethodName := ⟨RX6, "faultKind", "()I"⟩
abbrev cX6_divisor : ByteArray := prog_8_method_30_code
def yX6_divisor : MethodName := ⟨RX6, "divisor", "(JJ)J"⟩
abbrev cX6_told : ByteArray := prog_8_method_31_code
def yX6_told : MethodName := ⟨RX6, "told", "(JJ)J"⟩
abbrev cX6_denominator : ByteArray := prog_8_method_32_code
def yX6_denominator : MethodName := ⟨RX6, "denominator", "()J"⟩
abbrev cX6_choose : ByteArray := prog_8_method_33_code
def yX6_choose : MethodName := ⟨RX6, "choose", "(II)J"⟩
abbrev cX6_worthOf : ByteArray := prog_8_method_34_code
def yX6_worthOf : MethodName := ⟨RX6, "worthOf", "(II)J"⟩
abbrev cX6_at : ByteArray := prog_8_method_35_code
def yX6_at : MethodName := ⟨RX6, "at", "(II)I"⟩
abbrev cX6_findsRanks : ByteArray := prog_8_method_36_code
def yX6_findsRanks : MethodName := ⟨RX6, "findsRanks", "()V"⟩
abbrev cX6_meanAt : ByteArray := prog_8_method_37_code
def yX6_meanAt : MethodName := ⟨RX6, "meanAt", "(II)J"⟩
abbrev cX6_spotOf : ByteArray := prog_8_method_38_code
def yX6_spotOf : MethodName := ⟨RX6, "spotOf", "(IIII)I"⟩
abbrev cX6_valueOf : ByteArray := prog_8_method_39_code
def yX6_valueOf : MethodName := ⟨RX6, "valueOf", "(I)I"⟩
abbrev cX6_recallAt : ByteArray := prog_8_method_40_code
def yX6_recallAt : MethodName := ⟨RX6, "recallAt", "(IIIII)J"⟩
abbrev cX6_drawnAt : ByteArray := prog_8_method_41_code
def yX6_drawnAt : MethodName := ⟨RX6, "drawnAt", "(III)J"⟩
abbrev cX6_findsValues : ByteArray := prog_8_method_42_code
def yX6_findsValues : MethodName := ⟨RX6, "findsValues", "()V"⟩
abbrev cX6_bestAt : ByteArray := prog_8_method_43_code
def yX6_bestAt : MethodName := ⟨RX6, "bestAt", "(IIII)J"⟩
abbrev cX6_knows : ByteArray := prog_8_method_44_code
def yX6_knows : MethodName := ⟨RX6, "knows", "()V"⟩
abbrev cX6_isCandidate : ByteArray := prog_8_method_45_code
def yX6_isCandidate : MethodName := ⟨RX6, "isCandidate", "(I)Z"⟩
abbrev cX6_worth : ByteArray := prog_8_method_46_code
def yX6_worth : MethodName := ⟨RX6, "worth", "(II)J"⟩
abbrev cX6_rankValue : ByteArray := prog_8_method_47_code
def yX6_rankValue : MethodName := ⟨RX6, "rankValue", "(II)J"⟩
abbrev cX6_isChosen : ByteArray := prog_8_method_48_code
def yX6_isChosen : MethodName := ⟨RX6, "isChosen", "(III)Z"⟩
abbrev cX6_choosesRank : ByteArray := prog_8_method_49_code
def yX6_choosesRank : MethodName := ⟨RX6, "choosesRank", "(III)I"⟩
abbrev cX6_thresholdAt : ByteArray := prog_8_method_50_code
def yX6_thresholdAt : MethodName := ⟨RX6, "thresholdAt", "(II)I"⟩
abbrev cX6_rankThreshold : ByteArray := prog_8_method_51_code
def yX6_rankThreshold : MethodName := ⟨RX6, "rankThreshold", "(II)I"⟩
abbrev cX6_expects : ByteArray := prog_8_method_52_code
def yX6_expects : MethodName := ⟨RX6, "expects", "(I)J"⟩
abbrev cX6_rankExpectation : ByteArray := prog_8_method_53_code
def yX6_rankExpectation : MethodName := ⟨RX6, "rankExpectation", "(I)J"⟩
abbrev cX6_skips_ : ByteArray := prog_8_method_54_code
def yX6_skips_ : MethodName := ⟨RX6, "skips", "(I)J"⟩
abbrev cX6_skipping : ByteArray := prog_8_method_55_code
def yX6_skipping : MethodName := ⟨RX6, "skipping", "(I)J"⟩
abbrev cX6_bestSkip : ByteArray := prog_8_method_56_code
def yX6_bestSkip : MethodName := ⟨RX6, "bestSkip", "()I"⟩
abbrev cX6_isSituation : ByteArray := prog_8_method_57_code
def yX6_isSituation : MethodName := ⟨RX6, "isSituation", "(IIII)Z"⟩
abbrev cX6_situation : ByteArray := prog_8_method_58_code
def yX6_situation : MethodName := ⟨RX6, "situation", "(IIII)J"⟩
abbrev cX6_recallOf : ByteArray := prog_8_method_59_code
def yX6_recallOf : MethodName := ⟨RX6, "recallOf", "(IIII)I"⟩
abbrev cX6_recalls : ByteArray := prog_8_method_60_code
def yX6_recalls : MethodName := ⟨RX6, "recalls", "(IIII)I"⟩
abbrev cX6_observes : ByteArray := prog_8_method_61_code
def yX6_observes : MethodName := ⟨RX6, "observes", "(IIII)I"⟩
abbrev cX6_isTaken : ByteArray := prog_8_method_62_code
def yX6_isTaken : MethodName := ⟨RX6, "isTaken", "(IIII)Z"⟩
abbrev cX6_choosesLevel : ByteArray := prog_8_method_63_code
def yX6_choosesLevel : MethodName := ⟨RX6, "choosesLevel", "(IIII)I"⟩
abbrev cX6_leastTaken : ByteArray := prog_8_method_64_code
def yX6_leastTaken : MethodName := ⟨RX6, "leastTaken", "(III)I"⟩
abbrev cX6_valueThreshold : ByteArray := prog_8_method_65_code
def yX6_valueThreshold : MethodName := ⟨RX6, "valueThreshold", "(III)I"⟩
abbrev cX6_fixedAt : ByteArray := prog_8_method_66_code
def yX6_fixedAt : MethodName := ⟨RX6, "fixedAt", "(I)J"⟩
abbrev cX6_fixed : ByteArray := prog_8_method_67_code
def yX6_fixed : MethodName := ⟨RX6, "fixed", "(I)J"⟩
abbrev cX6_bestFixed : ByteArray := prog_8_method_68_code
def yX6_bestFixed : MethodName := ⟨RX6, "bestFixed", "()I"⟩
abbrev cX6_gain : ByteArray := prog_8_method_69_code
def yX6_gain : MethodName := ⟨RX6, "gain", "()J"⟩
abbrev cX6_recallGain : ByteArray := prog_8_method_70_code
def yX6_recallGain : MethodName := ⟨RX6, "recallGain", "()J"⟩
abbrev cX6_price : ByteArray := prog_8_method_71_code
def yX6_price : MethodName := ⟨RX6, "price", "(Z)J"⟩
abbrev cX6_draws : ByteArray := prog_8_method_72_code
def yX6_draws : MethodName := ⟨RX6, "draws", "()I"⟩
abbrev cX6_drawsRanks : ByteArray := prog_8_method_73_code
def yX6_drawsRanks : MethodName := ⟨RX6, "drawsRanks", "()V"⟩
abbrev cX6_simulateRanks : ByteArray := prog_8_method_74_code
def yX6_simulateRanks : MethodName := ⟨RX6, "simulateRanks", "(II)I"⟩
abbrev cX6_drawsLevel : ByteArray := prog_8_method_75_code
def yX6_drawsLevel : MethodName := ⟨RX6, "drawsLevel", "()I"⟩
abbrev cX6_triesRecall : ByteArray := prog_8_method_76_code
def yX6_triesRecall : MethodName := ⟨RX6, "triesRecall", "(I)V"⟩
abbrev cX6_observesNext : ByteArray := prog_8_method_77_code
def yX6_observesNext : MethodName := ⟨RX6, "observesNext", "(I)V"⟩
abbrev cX6_simulateValues : ByteArray := prog_8_method_78_code
def yX6_simulateValues : MethodName := ⟨RX6, "simulateValues", "(II)I"⟩
abbrev cX6_weighted : ByteArray := prog_8_method_79_code
def yX6_weighted : MethodName := ⟨RX6, "weighted", "()I"⟩
abbrev cX6_quits : ByteArray := prog_8_method_80_code
def yX6_quits : MethodName := ⟨RX6, "quits", "()I"⟩
abbrev cX6_count : ByteArray := prog_8_method_81_code
def yX6_count : MethodName := ⟨RX6, "count", "(I)I"⟩
abbrev cX6_mixes : ByteArray := prog_8_method_82_code
def yX6_mixes : MethodName := ⟨RX6, "mixes", "(J)V"⟩
abbrev cX6_mixesFraction : ByteArray := prog_8_method_83_code
def yX6_mixesFraction : MethodName := ⟨RX6, "mixesFraction", "(J)V"⟩
abbrev cX6_mixesAll : ByteArray := prog_8_method_84_code
def yX6_mixesAll : MethodName := ⟨RX6, "mixesAll", "()V"⟩
abbrev cX6_digest : ByteArray := prog_8_method_85_code
def yX6_digest : MethodName := ⟨RX6, "digest", "()J"⟩
def RJ9 : String := "java/lang/Math"
def TJ9 : u_T := fun k => match k with
  | _ => ("", "", "", false)
def tyJ9 : Nat → FieldType := fun k => match k with
  | _ => .int
abbrev wsJ90 : List Cond := u_ws RJ9 TJ9 0
theorem nmJ9 : ∀ a, a < 0 → ∀ b, b < 0 → a ≠ b → (TJ9 a).2.1 ≠ (TJ9 b).2.1 := by decide +kernel
theorem tyJ9_ok : ∀ k, k < 0 → parseFieldDescriptor (TJ9 k).2.2.1 = some (tyJ9 k) := by decide +kernel
abbrev cJ9_abs_067f4 : ByteArray := prog_9_method_61_code
def yJ9_abs_067f4 : MethodName := ⟨RJ9, "abs", "(J)J"⟩
abbrev cJ9_max_f86c9 : ByteArray := prog_9_method_66_code
def yJ9_max_f86c9 : MethodName := ⟨RJ9, "max", "(JJ)J"⟩
def RJ10 : String := "java/lang/System"
def TJ10 : u_T := fun k => match k with
  | _ => ("", "", "", false)
def tyJ10 : Nat → FieldType := fun k => match k with
  | _ => .int
abbrev wsJ100 : List Cond := u_ws RJ10 TJ10 0
theorem nmJ10 : ∀ a, a < 0 → ∀ b, b < 0 → a ≠ b → (TJ10 a).2.1 ≠ (TJ10 b).2.1 := by decide +kernel
theorem tyJ10_ok : ∀ k, k < 0 → parseFieldDescriptor (TJ10 k).2.2.1 = some (tyJ10 k) := by decide +kernel
def RL : String := "StoppingPlannerLaw"
abbrev cL_law : ByteArray := code
def yL_law : MethodName := ⟨RL, "law", "([I)Z"⟩
abbrev vwCl : List vw_C := [(RX0, TX0, 2), (RX1, TX1, 6), (RX2, TX2, 4), (RX3, TX3, 11), (RX4, TX4, 11), (RX5, TX5, 9), (RX6, TX6, 24)]
def AW : List Cond := lw_tbl.filter goodWord
theorem AW_tbl : ∀ w ∈ AW, w ∈ lw_tbl := fun w h => (List.mem_filter.mp h).1
theorem AW_of {w : Cond} (h : w ∈ lw_tbl) (g : goodWord w = true) : w ∈ AW := List.mem_filter.mpr ⟨h, g⟩
theorem AW_good : ∀ w ∈ AW, (w.onTables && w.keeps) = true ∨ ∃ ty, w = .arrayClass ty := fun w h => good_of_word (List.mem_filter.mp h).2
theorem qr_1 : ∀ w ∈ tables_1_1, w ∈ lw_tbl := fun _ h => List.mem_append_right _ (List.mem_append_left _ h)
theorem qr_2 : ∀ w ∈ tables_1_2, w ∈ lw_tbl := fun _ h => List.mem_append_right _ (List.mem_append_right _ (List.mem_append_left _ h))
theorem qr_3 : ∀ w ∈ tables_1_3, w ∈ lw_tbl := fun _ h => List.mem_append_right _ (List.mem_append_right _ (List.mem_append_right _ (List.mem_append_left _ h)))
theorem qr_4 : ∀ w ∈ tables_1_4, w ∈ lw_tbl := fun _ h => List.mem_append_right _ (List.mem_append_right _ (List.mem_append_right _ (List.mem_append_right _ (List.mem_append_left _ h))))
theorem qr_5 : ∀ w ∈ tables_1_5, w ∈ lw_tbl := fun _ h => List.mem_append_right _ (List.mem_append_right _ (List.mem_append_right _ (List.mem_append_right _ (List.mem_append_right _ (h)))))
theorem qk_L_7 : Cond.classLink RL 7 RX5 ∈ AW := AW_of (qr_1 _ (List.mem_of_getElem? (l := tables_1_1) (i := 10) rfl)) rfl
theorem qw_RX5 : Cond.instantiable RX5 9 ∈ AW := AW_of (qr_1 _ (List.mem_of_getElem? (l := tables_1_1) (i := 11) rfl)) rfl
theorem qz_RX5 : Cond.initialized RX5 ∈ AW := AW_of (qr_1 _ (List.mem_of_getElem? (l := tables_1_1) (i := 1) rfl)) rfl
theorem qk_L_10 : Cond.classLink RL 10 RX6 ∈ AW := AW_of (qr_3 _ (List.mem_of_getElem? (l := tables_1_3) (i := 219) rfl)) rfl
theorem qw_RX6 : Cond.instantiable RX6 24 ∈ AW := AW_of (qr_3 _ (List.mem_of_getElem? (l := tables_1_3) (i := 220) rfl)) rfl
theorem qz_RX6 : Cond.initialized RX6 ∈ AW := AW_of (qr_1 _ (List.mem_of_getElem? (l := tables_1_1) (i := 8) rfl)) rfl
theorem qm_L_9 : Cond.methodLink RL 9 yX5_init ∈ AW := AW_of (qr_1 _ (List.mem_of_getElem? (l := tables_1_1) (i := 12) rfl)) rfl
theorem qn_yX5_init : Cond.instanceMethod yX5_init ∈ AW := AW_of (qr_1 _ (List.mem_of_getElem? (l := tables_1_1) (i := 13) rfl)) rfl
theorem qc_yX5_init : Cond.code yX5_init cX5_init 1 none ∈ AW := AW_of (qr_1 _ (List.mem_of_getElem? (l := tables_1_1) (i := 14) rfl)) rfl
theorem qm_X5_3 : Cond.methodLink RX5 3 objectInit ∈ AW := AW_of (qr_1 _ (List.mem_of_getElem? (l := tables_1_1) (i := 15) rfl)) rfl
theorem qn_objectInit : Cond.instanceMethod objectInit ∈ AW := AW_of (qr_1 _ (List.mem_of_getElem? (l := tables_1_1) (i := 16) rfl)) rfl
theorem qc_objectInit : Cond.code objectInit ⟨#[0xb1]⟩ 1 none ∈ AW := AW_of (qr_1 _ (List.mem_of_getElem? (l := tables_1_1) (i := 17) rfl)) rfl
theorem qa_int : Cond.arrayClass .int ∈ AW := AW_of (qr_1 _ (List.mem_of_getElem? (l := tables_1_1) (i := 63) rfl)) rfl
theorem qf_X5_9 : Cond.fieldLink RX5 9 "StoppingPlanner" "parameters" "[I" ∈ AW := AW_of (qr_1 _ (List.mem_of_getElem? (l := tables_1_1) (i := 162) rfl)) rfl
theorem qf_X5_13 : Cond.fieldLink RX5 13 "StoppingPlanner" "INITIAL" "[I" ∈ AW := AW_of (qr_1 _ (List.mem_of_getElem? (l := tables_1_1) (i := 18) rfl)) rfl
theorem qm_X5_16 : Cond.methodLink RX5 16 arraycopyName ∈ AW := AW_of (qr_1 _ (List.mem_of_getElem? (l := tables_1_1) (i := 20) rfl)) rfl
theorem qv_arraycopyName : Cond.native arraycopyName ∈ AW := AW_of (qr_1 _ (List.mem_of_getElem? (l := tables_1_1) (i := 22) rfl)) rfl
theorem qt_arraycopyName : Cond.static arraycopyName ∈ AW := AW_of (qr_1 _ (List.mem_of_getElem? (l := tables_1_1) (i := 21) rfl)) rfl
theorem qz_java_lang_System : Cond.initialized "java/lang/System" ∈ AW := AW_of (qr_1 _ (List.mem_of_getElem? (l := tables_1_1) (i := 2) rfl)) rfl
theorem qk_X5_22 : Cond.classLink RX5 22 RX3 ∈ AW := AW_of (qr_1 _ (List.mem_of_getElem? (l := tables_1_1) (i := 23) rfl)) rfl
theorem qw_RX3 : Cond.instantiable RX3 11 ∈ AW := AW_of (qr_1 _ (List.mem_of_getElem? (l := tables_1_1) (i := 24) rfl)) rfl
theorem qz_RX3 : Cond.initialized RX3 ∈ AW := AW_of (qr_1 _ (List.mem_of_getElem? (l := tables_1_1) (i := 3) rfl)) rfl
theorem qf_X5_25 : Cond.fieldLink RX5 25 "StoppingPlanner" "text" "LStoppingPlanner$Text;" ∈ AW := AW_of (qr_1 _ (List.mem_of_getElem? (l := tables_1_1) (i := 163) rfl)) rfl
theorem qk_X5_29 : Cond.classLink RX5 29 RX0 ∈ AW := AW_of (qr_1 _ (List.mem_of_getElem? (l := tables_1_1) (i := 64) rfl)) rfl
theorem qw_RX0 : Cond.instantiable RX0 2 ∈ AW := AW_of (qr_1 _ (List.mem_of_getElem? (l := tables_1_1) (i := 65) rfl)) rfl
theorem qz_RX0 : Cond.initialized RX0 ∈ AW := AW_of (qr_1 _ (List.mem_of_getElem? (l := tables_1_1) (i := 4) rfl)) rfl
theorem qf_X5_32 : Cond.fieldLink RX5 32 "StoppingPlanner" "history" "LStoppingPlanner$History;" ∈ AW := AW_of (qr_1 _ (List.mem_of_getElem? (l := tables_1_1) (i := 164) rfl)) rfl
theorem qk_X5_36 : Cond.classLink RX5 36 RX1 ∈ AW := AW_of (qr_1 _ (List.mem_of_getElem? (l := tables_1_1) (i := 77) rfl)) rfl
theorem qw_RX1 : Cond.instantiable RX1 6 ∈ AW := AW_of (qr_1 _ (List.mem_of_getElem? (l := tables_1_1) (i := 78) rfl)) rfl
theorem qz_RX1 : Cond.initialized RX1 ∈ AW := AW_of (qr_1 _ (List.mem_of_getElem? (l := tables_1_1) (i := 5) rfl)) rfl
theorem qf_X5_39 : Cond.fieldLink RX5 39 "StoppingPlanner" "ranks" "LStoppingPlanner$RankProblem;" ∈ AW := AW_of (qr_1 _ (List.mem_of_getElem? (l := tables_1_1) (i := 165) rfl)) rfl
theorem qk_X5_43 : Cond.classLink RX5 43 RX4 ∈ AW := AW_of (qr_1 _ (List.mem_of_getElem? (l := tables_1_1) (i := 103) rfl)) rfl
theorem qw_RX4 : Cond.instantiable RX4 11 ∈ AW := AW_of (qr_1 _ (List.mem_of_getElem? (l := tables_1_1) (i := 104) rfl)) rfl
theorem qz_RX4 : Cond.initialized RX4 ∈ AW := AW_of (qr_1 _ (List.mem_of_getElem? (l := tables_1_1) (i := 6) rfl)) rfl
theorem qf_X5_48 : Cond.fieldLink RX5 48 "StoppingPlanner" "values" "LStoppingPlanner$ValueProblem;" ∈ AW := AW_of (qr_1 _ (List.mem_of_getElem? (l := tables_1_1) (i := 166) rfl)) rfl
theorem qf_X5_52 : Cond.fieldLink RX5 52 "StoppingPlanner" "valuesWithoutRecall" "LStoppingPlanner$ValueProblem;" ∈ AW := AW_of (qr_1 _ (List.mem_of_getElem? (l := tables_1_1) (i := 167) rfl)) rfl
theorem qk_X5_55 : Cond.classLink RX5 55 RX2 ∈ AW := AW_of (qr_1 _ (List.mem_of_getElem? (l := tables_1_1) (i := 143) rfl)) rfl
theorem qw_RX2 : Cond.instantiable RX2 4 ∈ AW := AW_of (qr_1 _ (List.mem_of_getElem? (l := tables_1_1) (i := 144) rfl)) rfl
theorem qz_RX2 : Cond.initialized RX2 ∈ AW := AW_of (qr_1 _ (List.mem_of_getElem? (l := tables_1_1) (i := 7) rfl)) rfl
theorem qf_X5_58 : Cond.fieldLink RX5 58 "StoppingPlanner" "simulation" "LStoppingPlanner$Simulation;" ∈ AW := AW_of (qr_1 _ (List.mem_of_getElem? (l := tables_1_1) (i := 168) rfl)) rfl
theorem qf_X5_62 : Cond.fieldLink RX5 62 "StoppingPlanner" "latestDenominator" "J" ∈ AW := AW_of (qr_1 _ (List.mem_of_getElem? (l := tables_1_1) (i := 170) rfl)) rfl
theorem qm_X5_24 : Cond.methodLink RX5 24 yX3_init ∈ AW := AW_of (qr_1 _ (List.mem_of_getElem? (l := tables_1_1) (i := 25) rfl)) rfl
theorem qn_yX3_init : Cond.instanceMethod yX3_init ∈ AW := AW_of (qr_1 _ (List.mem_of_getElem? (l := tables_1_1) (i := 26) rfl)) rfl
theorem qc_yX3_init : Cond.code yX3_init cX3_init 1 none ∈ AW := AW_of (qr_1 _ (List.mem_of_getElem? (l := tables_1_1) (i := 27) rfl)) rfl
theorem qm_X3_3 : Cond.methodLink RX3 3 objectInit ∈ AW := AW_of (qr_1 _ (List.mem_of_getElem? (l := tables_1_1) (i := 28) rfl)) rfl
theorem qf_X3_11 : Cond.fieldLink RX3 11 "StoppingPlanner$Text" "codes" "[I" ∈ AW := AW_of (qr_1 _ (List.mem_of_getElem? (l := tables_1_1) (i := 29) rfl)) rfl
theorem qf_X3_15 : Cond.fieldLink RX3 15 "StoppingPlanner$Text" "staged" "[I" ∈ AW := AW_of (qr_1 _ (List.mem_of_getElem? (l := tables_1_1) (i := 30) rfl)) rfl
theorem qf_X3_18 : Cond.fieldLink RX3 18 "StoppingPlanner$Text" "item" "I" ∈ AW := AW_of (qr_1 _ (List.mem_of_getElem? (l := tables_1_1) (i := 35) rfl)) rfl
theorem qm_X5_31 : Cond.methodLink RX5 31 yX0_init ∈ AW := AW_of (qr_1 _ (List.mem_of_getElem? (l := tables_1_1) (i := 66) rfl)) rfl
theorem qn_yX0_init : Cond.instanceMethod yX0_init ∈ AW := AW_of (qr_1 _ (List.mem_of_getElem? (l := tables_1_1) (i := 67) rfl)) rfl
theorem qc_yX0_init : Cond.code yX0_init cX0_init 1 none ∈ AW := AW_of (qr_1 _ (List.mem_of_getElem? (l := tables_1_1) (i := 68) rfl)) rfl
theorem qm_X0_3 : Cond.methodLink RX0 3 objectInit ∈ AW := AW_of (qr_1 _ (List.mem_of_getElem? (l := tables_1_1) (i := 69) rfl)) rfl
theorem qf_X0_11 : Cond.fieldLink RX0 11 "StoppingPlanner$History" "states" "[I" ∈ AW := AW_of (qr_1 _ (List.mem_of_getElem? (l := tables_1_1) (i := 70) rfl)) rfl
theorem qm_X5_38 : Cond.methodLink RX5 38 yX1_init ∈ AW := AW_of (qr_1 _ (List.mem_of_getElem? (l := tables_1_1) (i := 79) rfl)) rfl
theorem qn_yX1_init : Cond.instanceMethod yX1_init ∈ AW := AW_of (qr_1 _ (List.mem_of_getElem? (l := tables_1_1) (i := 80) rfl)) rfl
theorem qc_yX1_init : Cond.code yX1_init cX1_init 1 none ∈ AW := AW_of (qr_1 _ (List.mem_of_getElem? (l := tables_1_1) (i := 81) rfl)) rfl
theorem qm_X1_3 : Cond.methodLink RX1 3 objectInit ∈ AW := AW_of (qr_1 _ (List.mem_of_getElem? (l := tables_1_1) (i := 82) rfl)) rfl
theorem qa_long : Cond.arrayClass .long ∈ AW := AW_of (qr_1 _ (List.mem_of_getElem? (l := tables_1_1) (i := 102) rfl)) rfl
theorem qf_X1_9 : Cond.fieldLink RX1 9 "StoppingPlanner$RankProblem" "worths" "[J" ∈ AW := AW_of (qr_1 _ (List.mem_of_getElem? (l := tables_1_1) (i := 83) rfl)) rfl
theorem qf_X1_15 : Cond.fieldLink RX1 15 "StoppingPlanner$RankProblem" "befores" "[J" ∈ AW := AW_of (qr_1 _ (List.mem_of_getElem? (l := tables_1_1) (i := 84) rfl)) rfl
theorem qf_X1_18 : Cond.fieldLink RX1 18 "StoppingPlanner$RankProblem" "followed" "[J" ∈ AW := AW_of (qr_1 _ (List.mem_of_getElem? (l := tables_1_1) (i := 85) rfl)) rfl
theorem qm_X5_45 : Cond.methodLink RX5 45 yX4_init ∈ AW := AW_of (qr_1 _ (List.mem_of_getElem? (l := tables_1_1) (i := 105) rfl)) rfl
theorem qn_yX4_init : Cond.instanceMethod yX4_init ∈ AW := AW_of (qr_1 _ (List.mem_of_getElem? (l := tables_1_1) (i := 106) rfl)) rfl
theorem qc_yX4_init : Cond.code yX4_init cX4_init 2 none ∈ AW := AW_of (qr_1 _ (List.mem_of_getElem? (l := tables_1_1) (i := 107) rfl)) rfl
theorem qm_X4_3 : Cond.methodLink RX4 3 objectInit ∈ AW := AW_of (qr_1 _ (List.mem_of_getElem? (l := tables_1_1) (i := 108) rfl)) rfl
theorem qf_X4_9 : Cond.fieldLink RX4 9 "StoppingPlanner$ValueProblem" "withRecall" "Z" ∈ AW := AW_of (qr_1 _ (List.mem_of_getElem? (l := tables_1_1) (i := 109) rfl)) rfl
theorem qf_X4_15 : Cond.fieldLink RX4 15 "StoppingPlanner$ValueProblem" "befores" "[J" ∈ AW := AW_of (qr_1 _ (List.mem_of_getElem? (l := tables_1_1) (i := 110) rfl)) rfl
theorem qf_X4_19 : Cond.fieldLink RX4 19 "StoppingPlanner$ValueProblem" "afters" "[J" ∈ AW := AW_of (qr_1 _ (List.mem_of_getElem? (l := tables_1_1) (i := 111) rfl)) rfl
theorem qf_X4_22 : Cond.fieldLink RX4 22 "StoppingPlanner$ValueProblem" "followed" "[J" ∈ AW := AW_of (qr_1 _ (List.mem_of_getElem? (l := tables_1_1) (i := 112) rfl)) rfl
theorem qf_X4_25 : Cond.fieldLink RX4 25 "StoppingPlanner$ValueProblem" "levels" "[J" ∈ AW := AW_of (qr_1 _ (List.mem_of_getElem? (l := tables_1_1) (i := 113) rfl)) rfl
theorem qf_X4_28 : Cond.fieldLink RX4 28 "StoppingPlanner$ValueProblem" "weights" "[I" ∈ AW := AW_of (qr_1 _ (List.mem_of_getElem? (l := tables_1_1) (i := 114) rfl)) rfl
theorem qm_X5_57 : Cond.methodLink RX5 57 yX2_init ∈ AW := AW_of (qr_1 _ (List.mem_of_getElem? (l := tables_1_1) (i := 145) rfl)) rfl
theorem qn_yX2_init : Cond.instanceMethod yX2_init ∈ AW := AW_of (qr_1 _ (List.mem_of_getElem? (l := tables_1_1) (i := 146) rfl)) rfl
theorem qc_yX2_init : Cond.code yX2_init cX2_init 1 none ∈ AW := AW_of (qr_1 _ (List.mem_of_getElem? (l := tables_1_1) (i := 147) rfl)) rfl
theorem qm_X2_3 : Cond.methodLink RX2 3 objectInit ∈ AW := AW_of (qr_1 _ (List.mem_of_getElem? (l := tables_1_1) (i := 148) rfl)) rfl
theorem qf_X2_11 : Cond.fieldLink RX2 11 "StoppingPlanner$Simulation" "results" "[I" ∈ AW := AW_of (qr_1 _ (List.mem_of_getElem? (l := tables_1_1) (i := 149) rfl)) rfl
theorem qf_X2_15 : Cond.fieldLink RX2 15 "StoppingPlanner$Simulation" "relativeRanks" "[I" ∈ AW := AW_of (qr_1 _ (List.mem_of_getElem? (l := tables_1_1) (i := 150) rfl)) rfl
theorem qf_X2_18 : Cond.fieldLink RX2 18 "StoppingPlanner$Simulation" "finalRanks" "[I" ∈ AW := AW_of (qr_1 _ (List.mem_of_getElem? (l := tables_1_1) (i := 151) rfl)) rfl
theorem qm_L_12 : Cond.methodLink RL 12 yX6_init ∈ AW := AW_of (qr_3 _ (List.mem_of_getElem? (l := tables_1_3) (i := 221) rfl)) rfl
theorem qn_yX6_init : Cond.instanceMethod yX6_init ∈ AW := AW_of (qr_3 _ (List.mem_of_getElem? (l := tables_1_3) (i := 222) rfl)) rfl
theorem qc_yX6_init : Cond.code yX6_init cX6_init 2 none ∈ AW := AW_of (qr_3 _ (List.mem_of_getElem? (l := tables_1_3) (i := 223) rfl)) rfl
theorem qm_X6_1 : Cond.methodLink RX6 1 objectInit ∈ AW := AW_of (qr_3 _ (List.mem_of_getElem? (l := tables_1_3) (i := 224) rfl)) rfl
theorem qf_X6_7 : Cond.fieldLink RX6 7 "StoppingPlannerModel" "row" "[I" ∈ AW := AW_of (qr_3 _ (List.mem_of_getElem? (l := tables_1_3) (i := 225) rfl)) rfl
theorem qf_X6_13 : Cond.fieldLink RX6 13 "StoppingPlannerModel" "backs" "[I" ∈ AW := AW_of (qr_3 _ (List.mem_of_getElem? (l := tables_1_3) (i := 226) rfl)) rfl
theorem qf_X6_16 : Cond.fieldLink RX6 16 "StoppingPlannerModel" "under" "J" ∈ AW := AW_of (qr_3 _ (List.mem_of_getElem? (l := tables_1_3) (i := 228) rfl)) rfl
theorem qf_X6_20 : Cond.fieldLink RX6 20 "StoppingPlannerModel" "text" "[I" ∈ AW := AW_of (qr_3 _ (List.mem_of_getElem? (l := tables_1_3) (i := 229) rfl)) rfl
theorem qf_X6_23 : Cond.fieldLink RX6 23 "StoppingPlannerModel" "draft" "[I" ∈ AW := AW_of (qr_3 _ (List.mem_of_getElem? (l := tables_1_3) (i := 231) rfl)) rfl
theorem qf_X6_26 : Cond.fieldLink RX6 26 "StoppingPlannerModel" "worths" "[J" ∈ AW := AW_of (qr_3 _ (List.mem_of_getElem? (l := tables_1_3) (i := 236) rfl)) rfl
theorem qf_X6_30 : Cond.fieldLink RX6 30 "StoppingPlannerModel" "rankValues" "[J" ∈ AW := AW_of (qr_3 _ (List.mem_of_getElem? (l := tables_1_3) (i := 237) rfl)) rfl
theorem qf_X6_33 : Cond.fieldLink RX6 33 "StoppingPlannerModel" "stays" "[J" ∈ AW := AW_of (qr_3 _ (List.mem_of_getElem? (l := tables_1_3) (i := 238) rfl)) rfl
theorem qf_X6_36 : Cond.fieldLink RX6 36 "StoppingPlannerModel" "goes" "[J" ∈ AW := AW_of (qr_3 _ (List.mem_of_getElem? (l := tables_1_3) (i := 239) rfl)) rfl
theorem qf_X6_39 : Cond.fieldLink RX6 39 "StoppingPlannerModel" "expected" "[J" ∈ AW := AW_of (qr_4 _ (List.mem_of_getElem? (l := tables_1_4) (i := 0) rfl)) rfl
theorem qf_X6_42 : Cond.fieldLink RX6 42 "StoppingPlannerModel" "relative" "[I" ∈ AW := AW_of (qr_4 _ (List.mem_of_getElem? (l := tables_1_4) (i := 2) rfl)) rfl
theorem qf_X6_45 : Cond.fieldLink RX6 45 "StoppingPlannerModel" "ranked" "[I" ∈ AW := AW_of (qr_4 _ (List.mem_of_getElem? (l := tables_1_4) (i := 3) rfl)) rfl
theorem qf_X6_48 : Cond.fieldLink RX6 48 "StoppingPlannerModel" "came" "[I" ∈ AW := AW_of (qr_4 _ (List.mem_of_getElem? (l := tables_1_4) (i := 7) rfl)) rfl
theorem qm_L_13 : Cond.methodLink RL 13 yX5_type ∈ AW := AW_of (qr_1 _ (List.mem_of_getElem? (l := tables_1_1) (i := 190) rfl)) rfl
theorem qn_yX5_type : Cond.instanceMethod yX5_type ∈ AW := AW_of (qr_1 _ (List.mem_of_getElem? (l := tables_1_1) (i := 191) rfl)) rfl
theorem qs_yX5_type : Cond.selects RX5 yX5_type yX5_type ∈ AW := AW_of (qr_1 _ (List.mem_of_getElem? (l := tables_1_1) (i := 192) rfl)) rfl
theorem qc_yX5_type : Cond.code yX5_type cX5_type 2 (some .int) ∈ AW := AW_of (qr_1 _ (List.mem_of_getElem? (l := tables_1_1) (i := 193) rfl)) rfl
theorem qm_X5_66 : Cond.methodLink RX5 66 yX3_isFull ∈ AW := AW_of (qr_1 _ (List.mem_of_getElem? (l := tables_1_1) (i := 194) rfl)) rfl
theorem qn_yX3_isFull : Cond.instanceMethod yX3_isFull ∈ AW := AW_of (qr_1 _ (List.mem_of_getElem? (l := tables_1_1) (i := 195) rfl)) rfl
theorem qs_yX3_isFull : Cond.selects RX3 yX3_isFull yX3_isFull ∈ AW := AW_of (qr_1 _ (List.mem_of_getElem? (l := tables_1_1) (i := 196) rfl)) rfl
theorem qc_yX3_isFull : Cond.code yX3_isFull cX3_isFull 1 (some .boolean) ∈ AW := AW_of (qr_1 _ (List.mem_of_getElem? (l := tables_1_1) (i := 197) rfl)) rfl
theorem qf_X3_22 : Cond.fieldLink RX3 22 "StoppingPlanner$Text" "size" "I" ∈ AW := AW_of (qr_1 _ (List.mem_of_getElem? (l := tables_1_1) (i := 31) rfl)) rfl
theorem qm_X5_70 : Cond.methodLink RX5 70 yX3_append ∈ AW := AW_of (qr_1 _ (List.mem_of_getElem? (l := tables_1_1) (i := 198) rfl)) rfl
theorem qn_yX3_append : Cond.instanceMethod yX3_append ∈ AW := AW_of (qr_1 _ (List.mem_of_getElem? (l := tables_1_1) (i := 199) rfl)) rfl
theorem qs_yX3_append : Cond.selects RX3 yX3_append yX3_append ∈ AW := AW_of (qr_1 _ (List.mem_of_getElem? (l := tables_1_1) (i := 200) rfl)) rfl
theorem qc_yX3_append : Cond.code yX3_append cX3_append 2 (some .int) ∈ AW := AW_of (qr_1 _ (List.mem_of_getElem? (l := tables_1_1) (i := 201) rfl)) rfl
theorem qm_L_17 : Cond.methodLink RL 17 yX6_type ∈ AW := AW_of (qr_4 _ (List.mem_of_getElem? (l := tables_1_4) (i := 106) rfl)) rfl
theorem qn_yX6_type : Cond.instanceMethod yX6_type ∈ AW := AW_of (qr_4 _ (List.mem_of_getElem? (l := tables_1_4) (i := 107) rfl)) rfl
theorem qs_yX6_type : Cond.selects RX6 yX6_type yX6_type ∈ AW := AW_of (qr_4 _ (List.mem_of_getElem? (l := tables_1_4) (i := 108) rfl)) rfl
theorem qc_yX6_type : Cond.code yX6_type cX6_type 2 (some .int) ∈ AW := AW_of (qr_4 _ (List.mem_of_getElem? (l := tables_1_4) (i := 109) rfl)) rfl
theorem qf_X6_81 : Cond.fieldLink RX6 81 "StoppingPlannerModel" "typed" "I" ∈ AW := AW_of (qr_3 _ (List.mem_of_getElem? (l := tables_1_3) (i := 230) rfl)) rfl
theorem qm_X6_69 : Cond.methodLink RX6 69 yX6_in ∈ AW := AW_of (qr_4 _ (List.mem_of_getElem? (l := tables_1_4) (i := 66) rfl)) rfl
theorem qt_yX6_in : Cond.static yX6_in ∈ AW := AW_of (qr_4 _ (List.mem_of_getElem? (l := tables_1_4) (i := 67) rfl)) rfl
theorem qc_yX6_in : Cond.code yX6_in cX6_in 3 (some .boolean) ∈ AW := AW_of (qr_4 _ (List.mem_of_getElem? (l := tables_1_4) (i := 68) rfl)) rfl
theorem qm_L_18 : Cond.methodLink RL 18 yX5_clearText ∈ AW := AW_of (qr_1 _ (List.mem_of_getElem? (l := tables_1_1) (i := 202) rfl)) rfl
theorem qn_yX5_clearText : Cond.instanceMethod yX5_clearText ∈ AW := AW_of (qr_1 _ (List.mem_of_getElem? (l := tables_1_1) (i := 203) rfl)) rfl
theorem qs_yX5_clearText : Cond.selects RX5 yX5_clearText yX5_clearText ∈ AW := AW_of (qr_1 _ (List.mem_of_getElem? (l := tables_1_1) (i := 204) rfl)) rfl
theorem qc_yX5_clearText : Cond.code yX5_clearText cX5_clearText 1 (some .int) ∈ AW := AW_of (qr_1 _ (List.mem_of_getElem? (l := tables_1_1) (i := 205) rfl)) rfl
theorem qm_X5_74 : Cond.methodLink RX5 74 yX3_empty ∈ AW := AW_of (qr_1 _ (List.mem_of_getElem? (l := tables_1_1) (i := 206) rfl)) rfl
theorem qn_yX3_empty : Cond.instanceMethod yX3_empty ∈ AW := AW_of (qr_1 _ (List.mem_of_getElem? (l := tables_1_1) (i := 207) rfl)) rfl
theorem qs_yX3_empty : Cond.selects RX3 yX3_empty yX3_empty ∈ AW := AW_of (qr_1 _ (List.mem_of_getElem? (l := tables_1_1) (i := 208) rfl)) rfl
theorem qc_yX3_empty : Cond.code yX3_empty cX3_empty 2 (some .int) ∈ AW := AW_of (qr_1 _ (List.mem_of_getElem? (l := tables_1_1) (i := 209) rfl)) rfl
theorem qm_L_22 : Cond.methodLink RL 22 yX6_clearText ∈ AW := AW_of (qr_4 _ (List.mem_of_getElem? (l := tables_1_4) (i := 110) rfl)) rfl
theorem qn_yX6_clearText : Cond.instanceMethod yX6_clearText ∈ AW := AW_of (qr_4 _ (List.mem_of_getElem? (l := tables_1_4) (i := 111) rfl)) rfl
theorem qs_yX6_clearText : Cond.selects RX6 yX6_clearText yX6_clearText ∈ AW := AW_of (qr_4 _ (List.mem_of_getElem? (l := tables_1_4) (i := 112) rfl)) rfl
theorem qc_yX6_clearText : Cond.code yX6_clearText cX6_clearText 2 (some .int) ∈ AW := AW_of (qr_4 _ (List.mem_of_getElem? (l := tables_1_4) (i := 113) rfl)) rfl
theorem qm_L_23 : Cond.methodLink RL 23 yX5_load ∈ AW := AW_of (qr_1 _ (List.mem_of_getElem? (l := tables_1_1) (i := 210) rfl)) rfl
theorem qn_yX5_load : Cond.instanceMethod yX5_load ∈ AW := AW_of (qr_1 _ (List.mem_of_getElem? (l := tables_1_1) (i := 211) rfl)) rfl
theorem qs_yX5_load : Cond.selects RX5 yX5_load yX5_load ∈ AW := AW_of (qr_1 _ (List.mem_of_getElem? (l := tables_1_1) (i := 212) rfl)) rfl
theorem qc_yX5_load : Cond.code yX5_load cX5_load 1 (some .int) ∈ AW := AW_of (qr_1 _ (List.mem_of_getElem? (l := tables_1_1) (i := 213) rfl)) rfl
theorem qf_X5_85 : Cond.fieldLink RX5 85 "StoppingPlanner" "latestFault" "I" ∈ AW := AW_of (qr_1 _ (List.mem_of_getElem? (l := tables_1_1) (i := 169) rfl)) rfl
theorem qm_X5_78 : Cond.methodLink RX5 78 yX3_read ∈ AW := AW_of (qr_1 _ (List.mem_of_getElem? (l := tables_1_1) (i := 214) rfl)) rfl
theorem qn_yX3_read : Cond.instanceMethod yX3_read ∈ AW := AW_of (qr_1 _ (List.mem_of_getElem? (l := tables_1_1) (i := 215) rfl)) rfl
theorem qs_yX3_read : Cond.selects RX3 yX3_read yX3_read ∈ AW := AW_of (qr_1 _ (List.mem_of_getElem? (l := tables_1_1) (i := 216) rfl)) rfl
theorem qc_yX3_read : Cond.code yX3_read cX3_read 3 none ∈ AW := AW_of (qr_1 _ (List.mem_of_getElem? (l := tables_1_1) (i := 217) rfl)) rfl
theorem qm_X3_34 : Cond.methodLink RX3 34 arraycopyName ∈ AW := AW_of (qr_1 _ (List.mem_of_getElem? (l := tables_1_1) (i := 218) rfl)) rfl
theorem qf_X3_25 : Cond.fieldLink RX3 25 "StoppingPlanner$Text" "fault" "I" ∈ AW := AW_of (qr_1 _ (List.mem_of_getElem? (l := tables_1_1) (i := 32) rfl)) rfl
theorem qf_X3_31 : Cond.fieldLink RX3 31 "StoppingPlanner$Text" "items" "I" ∈ AW := AW_of (qr_1 _ (List.mem_of_getElem? (l := tables_1_1) (i := 34) rfl)) rfl
theorem qf_X3_40 : Cond.fieldLink RX3 40 "StoppingPlanner$Text" "digits" "I" ∈ AW := AW_of (qr_1 _ (List.mem_of_getElem? (l := tables_1_1) (i := 37) rfl)) rfl
theorem qm_X3_43 : Cond.methodLink RX3 43 yX3_readCharacter ∈ AW := AW_of (qr_1 _ (List.mem_of_getElem? (l := tables_1_1) (i := 219) rfl)) rfl
theorem qn_yX3_readCharacter : Cond.instanceMethod yX3_readCharacter ∈ AW := AW_of (qr_1 _ (List.mem_of_getElem? (l := tables_1_1) (i := 221) rfl)) rfl
theorem qs_yX3_readCharacter : Cond.selects RX3 yX3_readCharacter yX3_readCharacter ∈ AW := AW_of (List.mem_append_left _ (List.mem_of_getElem? (l := k2_sels lw_privs) (i := 0) rfl)) rfl
theorem qc_yX3_readCharacter : Cond.code yX3_readCharacter cX3_readCharacter 3 none ∈ AW := AW_of (qr_1 _ (List.mem_of_getElem? (l := tables_1_1) (i := 222) rfl)) rfl
theorem qm_X3_53 : Cond.methodLink RX3 53 yX3_readDigit ∈ AW := AW_of (qr_1 _ (List.mem_of_getElem? (l := tables_1_1) (i := 223) rfl)) rfl
theorem qn_yX3_readDigit : Cond.instanceMethod yX3_readDigit ∈ AW := AW_of (qr_1 _ (List.mem_of_getElem? (l := tables_1_1) (i := 225) rfl)) rfl
theorem qs_yX3_readDigit : Cond.selects RX3 yX3_readDigit yX3_readDigit ∈ AW := AW_of (List.mem_append_left _ (List.mem_of_getElem? (l := k2_sels lw_privs) (i := 1) rfl)) rfl
theorem qc_yX3_readDigit : Cond.code yX3_readDigit cX3_readDigit 3 none ∈ AW := AW_of (qr_1 _ (List.mem_of_getElem? (l := tables_1_1) (i := 226) rfl)) rfl
theorem qf_X3_63 : Cond.fieldLink RX3 63 "StoppingPlanner$Text" "number" "I" ∈ AW := AW_of (qr_1 _ (List.mem_of_getElem? (l := tables_1_1) (i := 38) rfl)) rfl
theorem qf_X3_66 : Cond.fieldLink RX3 66 "StoppingPlanner$Text" "numberPosition" "I" ∈ AW := AW_of (qr_1 _ (List.mem_of_getElem? (l := tables_1_1) (i := 39) rfl)) rfl
theorem qm_X3_50 : Cond.methodLink RX3 50 yX3_setFault ∈ AW := AW_of (qr_1 _ (List.mem_of_getElem? (l := tables_1_1) (i := 227) rfl)) rfl
theorem qn_yX3_setFault : Cond.instanceMethod yX3_setFault ∈ AW := AW_of (qr_1 _ (List.mem_of_getElem? (l := tables_1_1) (i := 229) rfl)) rfl
theorem qs_yX3_setFault : Cond.selects RX3 yX3_setFault yX3_setFault ∈ AW := AW_of (List.mem_append_left _ (List.mem_of_getElem? (l := k2_sels lw_privs) (i := 2) rfl)) rfl
theorem qc_yX3_setFault : Cond.code yX3_setFault cX3_setFault 3 none ∈ AW := AW_of (qr_1 _ (List.mem_of_getElem? (l := tables_1_1) (i := 230) rfl)) rfl
theorem qf_X3_28 : Cond.fieldLink RX3 28 "StoppingPlanner$Text" "faultPosition" "I" ∈ AW := AW_of (qr_1 _ (List.mem_of_getElem? (l := tables_1_1) (i := 33) rfl)) rfl
theorem qm_X3_47 : Cond.methodLink RX3 47 yX3_endNumber ∈ AW := AW_of (qr_1 _ (List.mem_of_getElem? (l := tables_1_1) (i := 231) rfl)) rfl
theorem qn_yX3_endNumber : Cond.instanceMethod yX3_endNumber ∈ AW := AW_of (qr_1 _ (List.mem_of_getElem? (l := tables_1_1) (i := 233) rfl)) rfl
theorem qs_yX3_endNumber : Cond.selects RX3 yX3_endNumber yX3_endNumber ∈ AW := AW_of (List.mem_append_left _ (List.mem_of_getElem? (l := k2_sels lw_privs) (i := 3) rfl)) rfl
theorem qc_yX3_endNumber : Cond.code yX3_endNumber cX3_endNumber 2 none ∈ AW := AW_of (qr_1 _ (List.mem_of_getElem? (l := tables_1_1) (i := 234) rfl)) rfl
theorem qf_X3_69 : Cond.fieldLink RX3 69 "StoppingPlanner$Text" "FIRST" "[I" ∈ AW := AW_of (qr_1 _ (List.mem_of_getElem? (l := tables_1_1) (i := 235) rfl)) rfl
theorem qf_X3_72 : Cond.fieldLink RX3 72 "StoppingPlanner$Text" "numbers" "I" ∈ AW := AW_of (qr_1 _ (List.mem_of_getElem? (l := tables_1_1) (i := 36) rfl)) rfl
theorem qf_X3_75 : Cond.fieldLink RX3 75 "StoppingPlanner$Text" "MOST_NUMBERS" "[I" ∈ AW := AW_of (qr_1 _ (List.mem_of_getElem? (l := tables_1_1) (i := 237) rfl)) rfl
theorem qm_X3_56 : Cond.methodLink RX3 56 yX3_endItem ∈ AW := AW_of (qr_2 _ (List.mem_of_getElem? (l := tables_1_2) (i := 3) rfl)) rfl
theorem qn_yX3_endItem : Cond.instanceMethod yX3_endItem ∈ AW := AW_of (qr_2 _ (List.mem_of_getElem? (l := tables_1_2) (i := 5) rfl)) rfl
theorem qs_yX3_endItem : Cond.selects RX3 yX3_endItem yX3_endItem ∈ AW := AW_of (List.mem_append_left _ (List.mem_of_getElem? (l := k2_sels lw_privs) (i := 4) rfl)) rfl
theorem qc_yX3_endItem : Cond.code yX3_endItem cX3_endItem 2 none ∈ AW := AW_of (qr_2 _ (List.mem_of_getElem? (l := tables_1_2) (i := 6) rfl)) rfl
theorem qf_X3_88 : Cond.fieldLink RX3 88 "StoppingPlanner$Text" "FEWEST_NUMBERS" "[I" ∈ AW := AW_of (qr_2 _ (List.mem_of_getElem? (l := tables_1_2) (i := 7) rfl)) rfl
theorem qm_X3_91 : Cond.methodLink RX3 91 yX3_endsWrongWeights ∈ AW := AW_of (qr_2 _ (List.mem_of_getElem? (l := tables_1_2) (i := 9) rfl)) rfl
theorem qn_yX3_endsWrongWeights : Cond.instanceMethod yX3_endsWrongWeights ∈ AW := AW_of (qr_2 _ (List.mem_of_getElem? (l := tables_1_2) (i := 11) rfl)) rfl
theorem qs_yX3_endsWrongWeights : Cond.selects RX3 yX3_endsWrongWeights yX3_endsWrongWeights ∈ AW := AW_of (List.mem_append_left _ (List.mem_of_getElem? (l := k2_sels lw_privs) (i := 5) rfl)) rfl
theorem qc_yX3_endsWrongWeights : Cond.code yX3_endsWrongWeights cX3_endsWrongWeights 3 (some .boolean) ∈ AW := AW_of (qr_2 _ (List.mem_of_getElem? (l := tables_1_2) (i := 12) rfl)) rfl
theorem qm_X3_95 : Cond.methodLink RX3 95 yX3_clearOtherPayoffs ∈ AW := AW_of (qr_2 _ (List.mem_of_getElem? (l := tables_1_2) (i := 13) rfl)) rfl
theorem qn_yX3_clearOtherPayoffs : Cond.instanceMethod yX3_clearOtherPayoffs ∈ AW := AW_of (qr_2 _ (List.mem_of_getElem? (l := tables_1_2) (i := 15) rfl)) rfl
theorem qs_yX3_clearOtherPayoffs : Cond.selects RX3 yX3_clearOtherPayoffs yX3_clearOtherPayoffs ∈ AW := AW_of (List.mem_append_left _ (List.mem_of_getElem? (l := k2_sels lw_privs) (i := 6) rfl)) rfl
theorem qc_yX3_clearOtherPayoffs : Cond.code yX3_clearOtherPayoffs cX3_clearOtherPayoffs 2 none ∈ AW := AW_of (qr_2 _ (List.mem_of_getElem? (l := tables_1_2) (i := 16) rfl)) rfl
theorem qm_X3_60 : Cond.methodLink RX3 60 yX3_beginItem ∈ AW := AW_of (qr_2 _ (List.mem_of_getElem? (l := tables_1_2) (i := 17) rfl)) rfl
theorem qn_yX3_beginItem : Cond.instanceMethod yX3_beginItem ∈ AW := AW_of (qr_2 _ (List.mem_of_getElem? (l := tables_1_2) (i := 19) rfl)) rfl
theorem qs_yX3_beginItem : Cond.selects RX3 yX3_beginItem yX3_beginItem ∈ AW := AW_of (List.mem_append_left _ (List.mem_of_getElem? (l := k2_sels lw_privs) (i := 7) rfl)) rfl
theorem qc_yX3_beginItem : Cond.code yX3_beginItem cX3_beginItem 4 none ∈ AW := AW_of (qr_2 _ (List.mem_of_getElem? (l := tables_1_2) (i := 20) rfl)) rfl
theorem qm_X3_84 : Cond.methodLink RX3 84 yX3_indexOfLetter ∈ AW := AW_of (qr_2 _ (List.mem_of_getElem? (l := tables_1_2) (i := 21) rfl)) rfl
theorem qt_yX3_indexOfLetter : Cond.static yX3_indexOfLetter ∈ AW := AW_of (qr_2 _ (List.mem_of_getElem? (l := tables_1_2) (i := 22) rfl)) rfl
theorem qc_yX3_indexOfLetter : Cond.code yX3_indexOfLetter cX3_indexOfLetter 2 (some .int) ∈ AW := AW_of (qr_2 _ (List.mem_of_getElem? (l := tables_1_2) (i := 23) rfl)) rfl
theorem qf_X3_98 : Cond.fieldLink RX3 98 "StoppingPlanner$Text" "LETTERS" "[C" ∈ AW := AW_of (qr_2 _ (List.mem_of_getElem? (l := tables_1_2) (i := 24) rfl)) rfl
theorem qm_X5_82 : Cond.methodLink RX5 82 yX3_kindOfFault ∈ AW := AW_of (qr_2 _ (List.mem_of_getElem? (l := tables_1_2) (i := 26) rfl)) rfl
theorem qn_yX3_kindOfFault : Cond.instanceMethod yX3_kindOfFault ∈ AW := AW_of (qr_2 _ (List.mem_of_getElem? (l := tables_1_2) (i := 27) rfl)) rfl
theorem qs_yX3_kindOfFault : Cond.selects RX3 yX3_kindOfFault yX3_kindOfFault ∈ AW := AW_of (qr_2 _ (List.mem_of_getElem? (l := tables_1_2) (i := 28) rfl)) rfl
theorem qc_yX3_kindOfFault : Cond.code yX3_kindOfFault cX3_kindOfFault 1 (some .int) ∈ AW := AW_of (qr_2 _ (List.mem_of_getElem? (l := tables_1_2) (i := 29) rfl)) rfl
theorem qm_X5_89 : Cond.methodLink RX5 89 yX3_positionOfFault ∈ AW := AW_of (qr_2 _ (List.mem_of_getElem? (l := tables_1_2) (i := 30) rfl)) rfl
theorem qn_yX3_positionOfFault : Cond.instanceMethod yX3_positionOfFault ∈ AW := AW_of (qr_2 _ (List.mem_of_getElem? (l := tables_1_2) (i := 31) rfl)) rfl
theorem qs_yX3_positionOfFault : Cond.selects RX3 yX3_positionOfFault yX3_positionOfFault ∈ AW := AW_of (qr_2 _ (List.mem_of_getElem? (l := tables_1_2) (i := 32) rfl)) rfl
theorem qc_yX3_positionOfFault : Cond.code yX3_positionOfFault cX3_positionOfFault 1 (some .int) ∈ AW := AW_of (qr_2 _ (List.mem_of_getElem? (l := tables_1_2) (i := 33) rfl)) rfl
theorem qm_X5_92 : Cond.methodLink RX5 92 yX5_beginChange ∈ AW := AW_of (qr_2 _ (List.mem_of_getElem? (l := tables_1_2) (i := 34) rfl)) rfl
theorem qn_yX5_beginChange : Cond.instanceMethod yX5_beginChange ∈ AW := AW_of (qr_2 _ (List.mem_of_getElem? (l := tables_1_2) (i := 36) rfl)) rfl
theorem qs_yX5_beginChange : Cond.selects RX5 yX5_beginChange yX5_beginChange ∈ AW := AW_of (List.mem_append_left _ (List.mem_of_getElem? (l := k2_sels lw_privs) (i := 8) rfl)) rfl
theorem qc_yX5_beginChange : Cond.code yX5_beginChange cX5_beginChange 1 none ∈ AW := AW_of (qr_2 _ (List.mem_of_getElem? (l := tables_1_2) (i := 37) rfl)) rfl
theorem qm_X5_248 : Cond.methodLink RX5 248 yX0_record ∈ AW := AW_of (qr_2 _ (List.mem_of_getElem? (l := tables_1_2) (i := 38) rfl)) rfl
theorem qn_yX0_record : Cond.instanceMethod yX0_record ∈ AW := AW_of (qr_2 _ (List.mem_of_getElem? (l := tables_1_2) (i := 39) rfl)) rfl
theorem qs_yX0_record : Cond.selects RX0 yX0_record yX0_record ∈ AW := AW_of (qr_2 _ (List.mem_of_getElem? (l := tables_1_2) (i := 40) rfl)) rfl
theorem qc_yX0_record : Cond.code yX0_record cX0_record 2 none ∈ AW := AW_of (qr_2 _ (List.mem_of_getElem? (l := tables_1_2) (i := 41) rfl)) rfl
theorem qf_X0_15 : Cond.fieldLink RX0 15 "StoppingPlanner$History" "size" "I" ∈ AW := AW_of (qr_1 _ (List.mem_of_getElem? (l := tables_1_1) (i := 71) rfl)) rfl
theorem qm_X0_19 : Cond.methodLink RX0 19 arraycopyName ∈ AW := AW_of (qr_2 _ (List.mem_of_getElem? (l := tables_1_2) (i := 42) rfl)) rfl
theorem qm_X5_208 : Cond.methodLink RX5 208 yX5_forgetSolutions ∈ AW := AW_of (qr_2 _ (List.mem_of_getElem? (l := tables_1_2) (i := 43) rfl)) rfl
theorem qn_yX5_forgetSolutions : Cond.instanceMethod yX5_forgetSolutions ∈ AW := AW_of (qr_2 _ (List.mem_of_getElem? (l := tables_1_2) (i := 45) rfl)) rfl
theorem qs_yX5_forgetSolutions : Cond.selects RX5 yX5_forgetSolutions yX5_forgetSolutions ∈ AW := AW_of (List.mem_append_left _ (List.mem_of_getElem? (l := k2_sels lw_privs) (i := 9) rfl)) rfl
theorem qc_yX5_forgetSolutions : Cond.code yX5_forgetSolutions cX5_forgetSolutions 1 none ∈ AW := AW_of (qr_2 _ (List.mem_of_getElem? (l := tables_1_2) (i := 46) rfl)) rfl
theorem qm_X5_251 : Cond.methodLink RX5 251 yX1_forget ∈ AW := AW_of (qr_2 _ (List.mem_of_getElem? (l := tables_1_2) (i := 47) rfl)) rfl
theorem qn_yX1_forget : Cond.instanceMethod yX1_forget ∈ AW := AW_of (qr_2 _ (List.mem_of_getElem? (l := tables_1_2) (i := 48) rfl)) rfl
theorem qs_yX1_forget : Cond.selects RX1 yX1_forget yX1_forget ∈ AW := AW_of (qr_2 _ (List.mem_of_getElem? (l := tables_1_2) (i := 49) rfl)) rfl
theorem qc_yX1_forget : Cond.code yX1_forget cX1_forget 1 none ∈ AW := AW_of (qr_2 _ (List.mem_of_getElem? (l := tables_1_2) (i := 50) rfl)) rfl
theorem qf_X1_29 : Cond.fieldLink RX1 29 "StoppingPlanner$RankProblem" "solved" "Z" ∈ AW := AW_of (qr_1 _ (List.mem_of_getElem? (l := tables_1_1) (i := 86) rfl)) rfl
theorem qm_X5_254 : Cond.methodLink RX5 254 yX4_forget ∈ AW := AW_of (qr_2 _ (List.mem_of_getElem? (l := tables_1_2) (i := 51) rfl)) rfl
theorem qn_yX4_forget : Cond.instanceMethod yX4_forget ∈ AW := AW_of (qr_2 _ (List.mem_of_getElem? (l := tables_1_2) (i := 52) rfl)) rfl
theorem qs_yX4_forget : Cond.selects RX4 yX4_forget yX4_forget ∈ AW := AW_of (qr_2 _ (List.mem_of_getElem? (l := tables_1_2) (i := 53) rfl)) rfl
theorem qc_yX4_forget : Cond.code yX4_forget cX4_forget 1 none ∈ AW := AW_of (qr_2 _ (List.mem_of_getElem? (l := tables_1_2) (i := 54) rfl)) rfl
theorem qf_X4_51 : Cond.fieldLink RX4 51 "StoppingPlanner$ValueProblem" "solved" "Z" ∈ AW := AW_of (qr_1 _ (List.mem_of_getElem? (l := tables_1_1) (i := 115) rfl)) rfl
theorem qm_X5_95 : Cond.methodLink RX5 95 yX3_giveParameters ∈ AW := AW_of (qr_2 _ (List.mem_of_getElem? (l := tables_1_2) (i := 55) rfl)) rfl
theorem qn_yX3_giveParameters : Cond.instanceMethod yX3_giveParameters ∈ AW := AW_of (qr_2 _ (List.mem_of_getElem? (l := tables_1_2) (i := 56) rfl)) rfl
theorem qs_yX3_giveParameters : Cond.selects RX3 yX3_giveParameters yX3_giveParameters ∈ AW := AW_of (qr_2 _ (List.mem_of_getElem? (l := tables_1_2) (i := 57) rfl)) rfl
theorem qc_yX3_giveParameters : Cond.code yX3_giveParameters cX3_giveParameters 2 none ∈ AW := AW_of (qr_2 _ (List.mem_of_getElem? (l := tables_1_2) (i := 58) rfl)) rfl
theorem qm_X5_98 : Cond.methodLink RX5 98 yX3_countOfItems ∈ AW := AW_of (qr_2 _ (List.mem_of_getElem? (l := tables_1_2) (i := 59) rfl)) rfl
theorem qn_yX3_countOfItems : Cond.instanceMethod yX3_countOfItems ∈ AW := AW_of (qr_2 _ (List.mem_of_getElem? (l := tables_1_2) (i := 60) rfl)) rfl
theorem qs_yX3_countOfItems : Cond.selects RX3 yX3_countOfItems yX3_countOfItems ∈ AW := AW_of (qr_2 _ (List.mem_of_getElem? (l := tables_1_2) (i := 61) rfl)) rfl
theorem qc_yX3_countOfItems : Cond.code yX3_countOfItems cX3_countOfItems 1 (some .int) ∈ AW := AW_of (qr_2 _ (List.mem_of_getElem? (l := tables_1_2) (i := 62) rfl)) rfl
theorem qm_L_26 : Cond.methodLink RL 26 yX6_load ∈ AW := AW_of (qr_4 _ (List.mem_of_getElem? (l := tables_1_4) (i := 114) rfl)) rfl
theorem qn_yX6_load : Cond.instanceMethod yX6_load ∈ AW := AW_of (qr_4 _ (List.mem_of_getElem? (l := tables_1_4) (i := 115) rfl)) rfl
theorem qs_yX6_load : Cond.selects RX6 yX6_load yX6_load ∈ AW := AW_of (qr_4 _ (List.mem_of_getElem? (l := tables_1_4) (i := 116) rfl)) rfl
theorem qc_yX6_load : Cond.code yX6_load cX6_load 3 (some .int) ∈ AW := AW_of (qr_4 _ (List.mem_of_getElem? (l := tables_1_4) (i := 117) rfl)) rfl
theorem qf_X6_84 : Cond.fieldLink RX6 84 "StoppingPlannerModel" "spot" "I" ∈ AW := AW_of (qr_3 _ (List.mem_of_getElem? (l := tables_1_3) (i := 232) rfl)) rfl
theorem qf_X6_91 : Cond.fieldLink RX6 91 "StoppingPlannerModel" "fault" "I" ∈ AW := AW_of (qr_3 _ (List.mem_of_getElem? (l := tables_1_3) (i := 233) rfl)) rfl
theorem qf_X6_94 : Cond.fieldLink RX6 94 "StoppingPlannerModel" "faultAt" "I" ∈ AW := AW_of (qr_3 _ (List.mem_of_getElem? (l := tables_1_3) (i := 234) rfl)) rfl
theorem qm_X6_107 : Cond.methodLink RX6 107 yX6_skips ∈ AW := AW_of (qr_4 _ (List.mem_of_getElem? (l := tables_1_4) (i := 118) rfl)) rfl
theorem qn_yX6_skips : Cond.instanceMethod yX6_skips ∈ AW := AW_of (qr_4 _ (List.mem_of_getElem? (l := tables_1_4) (i := 120) rfl)) rfl
theorem qs_yX6_skips : Cond.selects RX6 yX6_skips yX6_skips ∈ AW := AW_of (List.mem_append_left _ (List.mem_of_getElem? (l := k2_sels lw_privs) (i := 47) rfl)) rfl
theorem qc_yX6_skips : Cond.code yX6_skips cX6_skips 1 none ∈ AW := AW_of (qr_4 _ (List.mem_of_getElem? (l := tables_1_4) (i := 121) rfl)) rfl
theorem qm_X6_87 : Cond.methodLink RX6 87 yX6_here ∈ AW := AW_of (qr_4 _ (List.mem_of_getElem? (l := tables_1_4) (i := 122) rfl)) rfl
theorem qn_yX6_here : Cond.instanceMethod yX6_here ∈ AW := AW_of (qr_4 _ (List.mem_of_getElem? (l := tables_1_4) (i := 124) rfl)) rfl
theorem qs_yX6_here : Cond.selects RX6 yX6_here yX6_here ∈ AW := AW_of (List.mem_append_left _ (List.mem_of_getElem? (l := k2_sels lw_privs) (i := 48) rfl)) rfl
theorem qc_yX6_here : Cond.code yX6_here cX6_here 1 (some .int) ∈ AW := AW_of (qr_4 _ (List.mem_of_getElem? (l := tables_1_4) (i := 125) rfl)) rfl
theorem qm_X6_116 : Cond.methodLink RX6 116 yX6_readsItem ∈ AW := AW_of (qr_4 _ (List.mem_of_getElem? (l := tables_1_4) (i := 126) rfl)) rfl
theorem qn_yX6_readsItem : Cond.instanceMethod yX6_readsItem ∈ AW := AW_of (qr_4 _ (List.mem_of_getElem? (l := tables_1_4) (i := 128) rfl)) rfl
theorem qs_yX6_readsItem : Cond.selects RX6 yX6_readsItem yX6_readsItem ∈ AW := AW_of (List.mem_append_left _ (List.mem_of_getElem? (l := k2_sels lw_privs) (i := 49) rfl)) rfl
theorem qc_yX6_readsItem : Cond.code yX6_readsItem cX6_readsItem 3 none ∈ AW := AW_of (qr_4 _ (List.mem_of_getElem? (l := tables_1_4) (i := 129) rfl)) rfl
theorem qm_X6_104 : Cond.methodLink RX6 104 yX6_placeOf ∈ AW := AW_of (qr_4 _ (List.mem_of_getElem? (l := tables_1_4) (i := 130) rfl)) rfl
theorem qt_yX6_placeOf : Cond.static yX6_placeOf ∈ AW := AW_of (qr_4 _ (List.mem_of_getElem? (l := tables_1_4) (i := 131) rfl)) rfl
theorem qc_yX6_placeOf : Cond.code yX6_placeOf cX6_placeOf 1 (some .int) ∈ AW := AW_of (qr_4 _ (List.mem_of_getElem? (l := tables_1_4) (i := 132) rfl)) rfl
theorem qm_X6_97 : Cond.methodLink RX6 97 yX6_fails ∈ AW := AW_of (qr_4 _ (List.mem_of_getElem? (l := tables_1_4) (i := 133) rfl)) rfl
theorem qn_yX6_fails : Cond.instanceMethod yX6_fails ∈ AW := AW_of (qr_4 _ (List.mem_of_getElem? (l := tables_1_4) (i := 135) rfl)) rfl
theorem qs_yX6_fails : Cond.selects RX6 yX6_fails yX6_fails ∈ AW := AW_of (List.mem_append_left _ (List.mem_of_getElem? (l := k2_sels lw_privs) (i := 50) rfl)) rfl
theorem qc_yX6_fails : Cond.code yX6_fails cX6_fails 3 none ∈ AW := AW_of (qr_4 _ (List.mem_of_getElem? (l := tables_1_4) (i := 136) rfl)) rfl
theorem qm_X6_110 : Cond.methodLink RX6 110 yX6_readsNumber ∈ AW := AW_of (qr_4 _ (List.mem_of_getElem? (l := tables_1_4) (i := 137) rfl)) rfl
theorem qn_yX6_readsNumber : Cond.instanceMethod yX6_readsNumber ∈ AW := AW_of (qr_4 _ (List.mem_of_getElem? (l := tables_1_4) (i := 139) rfl)) rfl
theorem qs_yX6_readsNumber : Cond.selects RX6 yX6_readsNumber yX6_readsNumber ∈ AW := AW_of (List.mem_append_left _ (List.mem_of_getElem? (l := k2_sels lw_privs) (i := 51) rfl)) rfl
theorem qc_yX6_readsNumber : Cond.code yX6_readsNumber cX6_readsNumber 5 none ∈ AW := AW_of (qr_4 _ (List.mem_of_getElem? (l := tables_1_4) (i := 140) rfl)) rfl
theorem qm_X6_101 : Cond.methodLink RX6 101 yX6_numbersOf ∈ AW := AW_of (qr_4 _ (List.mem_of_getElem? (l := tables_1_4) (i := 141) rfl)) rfl
theorem qt_yX6_numbersOf : Cond.static yX6_numbersOf ∈ AW := AW_of (qr_4 _ (List.mem_of_getElem? (l := tables_1_4) (i := 142) rfl)) rfl
theorem qc_yX6_numbersOf : Cond.code yX6_numbersOf cX6_numbersOf 1 (some .int) ∈ AW := AW_of (qr_4 _ (List.mem_of_getElem? (l := tables_1_4) (i := 143) rfl)) rfl
theorem qm_X6_73 : Cond.methodLink RX6 73 yX6_isRight ∈ AW := AW_of (qr_4 _ (List.mem_of_getElem? (l := tables_1_4) (i := 69) rfl)) rfl
theorem qt_yX6_isRight : Cond.static yX6_isRight ∈ AW := AW_of (qr_4 _ (List.mem_of_getElem? (l := tables_1_4) (i := 70) rfl)) rfl
theorem qc_yX6_isRight : Cond.code yX6_isRight cX6_isRight 2 (some .boolean) ∈ AW := AW_of (qr_4 _ (List.mem_of_getElem? (l := tables_1_4) (i := 71) rfl)) rfl
theorem qm_X6_62 : Cond.methodLink RX6 62 yX6_leastOf ∈ AW := AW_of (qr_4 _ (List.mem_of_getElem? (l := tables_1_4) (i := 72) rfl)) rfl
theorem qt_yX6_leastOf : Cond.static yX6_leastOf ∈ AW := AW_of (qr_4 _ (List.mem_of_getElem? (l := tables_1_4) (i := 73) rfl)) rfl
theorem qc_yX6_leastOf : Cond.code yX6_leastOf cX6_leastOf 1 (some .int) ∈ AW := AW_of (qr_4 _ (List.mem_of_getElem? (l := tables_1_4) (i := 74) rfl)) rfl
theorem qm_X6_66 : Cond.methodLink RX6 66 yX6_mostOf ∈ AW := AW_of (qr_4 _ (List.mem_of_getElem? (l := tables_1_4) (i := 75) rfl)) rfl
theorem qt_yX6_mostOf : Cond.static yX6_mostOf ∈ AW := AW_of (qr_4 _ (List.mem_of_getElem? (l := tables_1_4) (i := 76) rfl)) rfl
theorem qc_yX6_mostOf : Cond.code yX6_mostOf cX6_mostOf 1 (some .int) ∈ AW := AW_of (qr_4 _ (List.mem_of_getElem? (l := tables_1_4) (i := 77) rfl)) rfl
theorem qm_X6_113 : Cond.methodLink RX6 113 yX6_ends ∈ AW := AW_of (qr_4 _ (List.mem_of_getElem? (l := tables_1_4) (i := 144) rfl)) rfl
theorem qn_yX6_ends : Cond.instanceMethod yX6_ends ∈ AW := AW_of (qr_4 _ (List.mem_of_getElem? (l := tables_1_4) (i := 146) rfl)) rfl
theorem qs_yX6_ends : Cond.selects RX6 yX6_ends yX6_ends ∈ AW := AW_of (List.mem_append_left _ (List.mem_of_getElem? (l := k2_sels lw_privs) (i := 52) rfl)) rfl
theorem qc_yX6_ends : Cond.code yX6_ends cX6_ends 6 none ∈ AW := AW_of (qr_4 _ (List.mem_of_getElem? (l := tables_1_4) (i := 147) rfl)) rfl
theorem qm_X6_59 : Cond.methodLink RX6 59 yX6_begins ∈ AW := AW_of (qr_4 _ (List.mem_of_getElem? (l := tables_1_4) (i := 82) rfl)) rfl
theorem qn_yX6_begins : Cond.instanceMethod yX6_begins ∈ AW := AW_of (qr_4 _ (List.mem_of_getElem? (l := tables_1_4) (i := 84) rfl)) rfl
theorem qs_yX6_begins : Cond.selects RX6 yX6_begins yX6_begins ∈ AW := AW_of (List.mem_append_left _ (List.mem_of_getElem? (l := k2_sels lw_privs) (i := 46) rfl)) rfl
theorem qc_yX6_begins : Cond.code yX6_begins cX6_begins 2 none ∈ AW := AW_of (qr_4 _ (List.mem_of_getElem? (l := tables_1_4) (i := 85) rfl)) rfl
theorem qf_X6_51 : Cond.fieldLink RX6 51 "StoppingPlannerModel" "backMany" "I" ∈ AW := AW_of (qr_3 _ (List.mem_of_getElem? (l := tables_1_3) (i := 227) rfl)) rfl
theorem qf_X6_55 : Cond.fieldLink RX6 55 "StoppingPlannerModel" "known" "Z" ∈ AW := AW_of (qr_3 _ (List.mem_of_getElem? (l := tables_1_3) (i := 235) rfl)) rfl
theorem qm_L_27 : Cond.methodLink RL 27 yX5_faultKind ∈ AW := AW_of (qr_2 _ (List.mem_of_getElem? (l := tables_1_2) (i := 63) rfl)) rfl
theorem qn_yX5_faultKind : Cond.instanceMethod yX5_faultKind ∈ AW := AW_of (qr_2 _ (List.mem_of_getElem? (l := tables_1_2) (i := 64) rfl)) rfl
theorem qs_yX5_faultKind : Cond.selects RX5 yX5_faultKind yX5_faultKind ∈ AW := AW_of (qr_2 _ (List.mem_of_getElem? (l := tables_1_2) (i := 65) rfl)) rfl
theorem qc_yX5_faultKind : Cond.code yX5_faultKind cX5_faultKind 1 (some .int) ∈ AW := AW_of (qr_2 _ (List.mem_of_getElem? (l := tables_1_2) (i := 66) rfl)) rfl
theorem qm_L_30 : Cond.methodLink RL 30 yX6_faultKind ∈ AW := AW_of (qr_4 _ (List.mem_of_getElem? (l := tables_1_4) (i := 148) rfl)) rfl
theorem qn_yX6_faultKind : Cond.instanceMethod yX6_faultKind ∈ AW := AW_of (qr_4 _ (List.mem_of_getElem? (l := tables_1_4) (i := 149) rfl)) rfl
theorem qs_yX6_faultKind : Cond.selects RX6 yX6_faultKind yX6_faultKind ∈ AW := AW_of (qr_4 _ (List.mem_of_getElem? (l := tables_1_4) (i := 150) rfl)) rfl
theorem qc_yX6_faultKind : Cond.code yX6_faultKind cX6_faultKind 1 (some .int) ∈ AW := AW_of (qr_4 _ (List.mem_of_getElem? (l := tables_1_4) (i := 151) rfl)) rfl
theorem qm_L_31 : Cond.methodLink RL 31 yX5_setCount ∈ AW := AW_of (qr_2 _ (List.mem_of_getElem? (l := tables_1_2) (i := 67) rfl)) rfl
theorem qn_yX5_setCount : Cond.instanceMethod yX5_setCount ∈ AW := AW_of (qr_2 _ (List.mem_of_getElem? (l := tables_1_2) (i := 68) rfl)) rfl
theorem qs_yX5_setCount : Cond.selects RX5 yX5_setCount yX5_setCount ∈ AW := AW_of (qr_2 _ (List.mem_of_getElem? (l := tables_1_2) (i := 69) rfl)) rfl
theorem qc_yX5_setCount : Cond.code yX5_setCount cX5_setCount 3 (some .int) ∈ AW := AW_of (qr_2 _ (List.mem_of_getElem? (l := tables_1_2) (i := 70) rfl)) rfl
theorem qm_X5_101 : Cond.methodLink RX5 101 yX5_change ∈ AW := AW_of (qr_2 _ (List.mem_of_getElem? (l := tables_1_2) (i := 71) rfl)) rfl
theorem qn_yX5_change : Cond.instanceMethod yX5_change ∈ AW := AW_of (qr_2 _ (List.mem_of_getElem? (l := tables_1_2) (i := 73) rfl)) rfl
theorem qs_yX5_change : Cond.selects RX5 yX5_change yX5_change ∈ AW := AW_of (List.mem_append_left _ (List.mem_of_getElem? (l := k2_sels lw_privs) (i := 10) rfl)) rfl
theorem qc_yX5_change : Cond.code yX5_change cX5_change 4 (some .int) ∈ AW := AW_of (qr_2 _ (List.mem_of_getElem? (l := tables_1_2) (i := 74) rfl)) rfl
theorem qf_X5_242 : Cond.fieldLink RX5 242 "StoppingPlanner" "LEAST" "[I" ∈ AW := AW_of (qr_2 _ (List.mem_of_getElem? (l := tables_1_2) (i := 75) rfl)) rfl
theorem qf_X5_245 : Cond.fieldLink RX5 245 "StoppingPlanner" "MOST" "[I" ∈ AW := AW_of (qr_2 _ (List.mem_of_getElem? (l := tables_1_2) (i := 76) rfl)) rfl
theorem qm_L_35 : Cond.methodLink RL 35 yX6_setCount ∈ AW := AW_of (qr_4 _ (List.mem_of_getElem? (l := tables_1_4) (i := 62) rfl)) rfl
theorem qn_yX6_setCount : Cond.instanceMethod yX6_setCount ∈ AW := AW_of (qr_4 _ (List.mem_of_getElem? (l := tables_1_4) (i := 63) rfl)) rfl
theorem qs_yX6_setCount : Cond.selects RX6 yX6_setCount yX6_setCount ∈ AW := AW_of (qr_4 _ (List.mem_of_getElem? (l := tables_1_4) (i := 64) rfl)) rfl
theorem qc_yX6_setCount : Cond.code yX6_setCount cX6_setCount 3 (some .int) ∈ AW := AW_of (qr_4 _ (List.mem_of_getElem? (l := tables_1_4) (i := 65) rfl)) rfl
theorem qm_X6_77 : Cond.methodLink RX6 77 yX6_sets ∈ AW := AW_of (qr_4 _ (List.mem_of_getElem? (l := tables_1_4) (i := 78) rfl)) rfl
theorem qn_yX6_sets : Cond.instanceMethod yX6_sets ∈ AW := AW_of (qr_4 _ (List.mem_of_getElem? (l := tables_1_4) (i := 80) rfl)) rfl
theorem qs_yX6_sets : Cond.selects RX6 yX6_sets yX6_sets ∈ AW := AW_of (List.mem_append_left _ (List.mem_of_getElem? (l := k2_sels lw_privs) (i := 45) rfl)) rfl
theorem qc_yX6_sets : Cond.code yX6_sets cX6_sets 4 (some .int) ∈ AW := AW_of (qr_4 _ (List.mem_of_getElem? (l := tables_1_4) (i := 81) rfl)) rfl
theorem qm_L_36 : Cond.methodLink RL 36 yX5_setPayoff ∈ AW := AW_of (qr_2 _ (List.mem_of_getElem? (l := tables_1_2) (i := 77) rfl)) rfl
theorem qn_yX5_setPayoff : Cond.instanceMethod yX5_setPayoff ∈ AW := AW_of (qr_2 _ (List.mem_of_getElem? (l := tables_1_2) (i := 78) rfl)) rfl
theorem qs_yX5_setPayoff : Cond.selects RX5 yX5_setPayoff yX5_setPayoff ∈ AW := AW_of (qr_2 _ (List.mem_of_getElem? (l := tables_1_2) (i := 79) rfl)) rfl
theorem qc_yX5_setPayoff : Cond.code yX5_setPayoff cX5_setPayoff 3 (some .int) ∈ AW := AW_of (qr_2 _ (List.mem_of_getElem? (l := tables_1_2) (i := 80) rfl)) rfl
theorem qm_L_39 : Cond.methodLink RL 39 yX6_setPayoff ∈ AW := AW_of (qr_4 _ (List.mem_of_getElem? (l := tables_1_4) (i := 86) rfl)) rfl
theorem qn_yX6_setPayoff : Cond.instanceMethod yX6_setPayoff ∈ AW := AW_of (qr_4 _ (List.mem_of_getElem? (l := tables_1_4) (i := 87) rfl)) rfl
theorem qs_yX6_setPayoff : Cond.selects RX6 yX6_setPayoff yX6_setPayoff ∈ AW := AW_of (qr_4 _ (List.mem_of_getElem? (l := tables_1_4) (i := 88) rfl)) rfl
theorem qc_yX6_setPayoff : Cond.code yX6_setPayoff cX6_setPayoff 3 (some .int) ∈ AW := AW_of (qr_4 _ (List.mem_of_getElem? (l := tables_1_4) (i := 89) rfl)) rfl
theorem qm_L_40 : Cond.methodLink RL 40 yX5_setLevel ∈ AW := AW_of (qr_2 _ (List.mem_of_getElem? (l := tables_1_2) (i := 81) rfl)) rfl
theorem qn_yX5_setLevel : Cond.instanceMethod yX5_setLevel ∈ AW := AW_of (qr_2 _ (List.mem_of_getElem? (l := tables_1_2) (i := 82) rfl)) rfl
theorem qs_yX5_setLevel : Cond.selects RX5 yX5_setLevel yX5_setLevel ∈ AW := AW_of (qr_2 _ (List.mem_of_getElem? (l := tables_1_2) (i := 83) rfl)) rfl
theorem qc_yX5_setLevel : Cond.code yX5_setLevel cX5_setLevel 3 (some .int) ∈ AW := AW_of (qr_2 _ (List.mem_of_getElem? (l := tables_1_2) (i := 84) rfl)) rfl
theorem qm_X5_105 : Cond.methodLink RX5 105 yX5_isNoLevel ∈ AW := AW_of (qr_2 _ (List.mem_of_getElem? (l := tables_1_2) (i := 85) rfl)) rfl
theorem qt_yX5_isNoLevel : Cond.static yX5_isNoLevel ∈ AW := AW_of (qr_2 _ (List.mem_of_getElem? (l := tables_1_2) (i := 86) rfl)) rfl
theorem qc_yX5_isNoLevel : Cond.code yX5_isNoLevel cX5_isNoLevel 1 (some .boolean) ∈ AW := AW_of (qr_2 _ (List.mem_of_getElem? (l := tables_1_2) (i := 87) rfl)) rfl
theorem qm_L_43 : Cond.methodLink RL 43 yX6_setLevel ∈ AW := AW_of (qr_4 _ (List.mem_of_getElem? (l := tables_1_4) (i := 90) rfl)) rfl
theorem qn_yX6_setLevel : Cond.instanceMethod yX6_setLevel ∈ AW := AW_of (qr_4 _ (List.mem_of_getElem? (l := tables_1_4) (i := 91) rfl)) rfl
theorem qs_yX6_setLevel : Cond.selects RX6 yX6_setLevel yX6_setLevel ∈ AW := AW_of (qr_4 _ (List.mem_of_getElem? (l := tables_1_4) (i := 92) rfl)) rfl
theorem qc_yX6_setLevel : Cond.code yX6_setLevel cX6_setLevel 3 (some .int) ∈ AW := AW_of (qr_4 _ (List.mem_of_getElem? (l := tables_1_4) (i := 93) rfl)) rfl
theorem qm_L_44 : Cond.methodLink RL 44 yX5_setRecall ∈ AW := AW_of (qr_2 _ (List.mem_of_getElem? (l := tables_1_2) (i := 88) rfl)) rfl
theorem qn_yX5_setRecall : Cond.instanceMethod yX5_setRecall ∈ AW := AW_of (qr_2 _ (List.mem_of_getElem? (l := tables_1_2) (i := 89) rfl)) rfl
theorem qs_yX5_setRecall : Cond.selects RX5 yX5_setRecall yX5_setRecall ∈ AW := AW_of (qr_2 _ (List.mem_of_getElem? (l := tables_1_2) (i := 90) rfl)) rfl
theorem qc_yX5_setRecall : Cond.code yX5_setRecall cX5_setRecall 3 (some .int) ∈ AW := AW_of (qr_2 _ (List.mem_of_getElem? (l := tables_1_2) (i := 91) rfl)) rfl
theorem qm_L_47 : Cond.methodLink RL 47 yX6_setRecall ∈ AW := AW_of (qr_4 _ (List.mem_of_getElem? (l := tables_1_4) (i := 94) rfl)) rfl
theorem qn_yX6_setRecall : Cond.instanceMethod yX6_setRecall ∈ AW := AW_of (qr_4 _ (List.mem_of_getElem? (l := tables_1_4) (i := 95) rfl)) rfl
theorem qs_yX6_setRecall : Cond.selects RX6 yX6_setRecall yX6_setRecall ∈ AW := AW_of (qr_4 _ (List.mem_of_getElem? (l := tables_1_4) (i := 96) rfl)) rfl
theorem qc_yX6_setRecall : Cond.code yX6_setRecall cX6_setRecall 3 (some .int) ∈ AW := AW_of (qr_4 _ (List.mem_of_getElem? (l := tables_1_4) (i := 97) rfl)) rfl
theorem qm_L_48 : Cond.methodLink RL 48 yX5_shiftWeight ∈ AW := AW_of (qr_2 _ (List.mem_of_getElem? (l := tables_1_2) (i := 92) rfl)) rfl
theorem qn_yX5_shiftWeight : Cond.instanceMethod yX5_shiftWeight ∈ AW := AW_of (qr_2 _ (List.mem_of_getElem? (l := tables_1_2) (i := 93) rfl)) rfl
theorem qs_yX5_shiftWeight : Cond.selects RX5 yX5_shiftWeight yX5_shiftWeight ∈ AW := AW_of (qr_2 _ (List.mem_of_getElem? (l := tables_1_2) (i := 94) rfl)) rfl
theorem qc_yX5_shiftWeight : Cond.code yX5_shiftWeight cX5_shiftWeight 4 (some .int) ∈ AW := AW_of (qr_2 _ (List.mem_of_getElem? (l := tables_1_2) (i := 95) rfl)) rfl
theorem qm_L_52 : Cond.methodLink RL 52 yX6_shiftWeight ∈ AW := AW_of (qr_4 _ (List.mem_of_getElem? (l := tables_1_4) (i := 98) rfl)) rfl
theorem qn_yX6_shiftWeight : Cond.instanceMethod yX6_shiftWeight ∈ AW := AW_of (qr_4 _ (List.mem_of_getElem? (l := tables_1_4) (i := 99) rfl)) rfl
theorem qs_yX6_shiftWeight : Cond.selects RX6 yX6_shiftWeight yX6_shiftWeight ∈ AW := AW_of (qr_4 _ (List.mem_of_getElem? (l := tables_1_4) (i := 100) rfl)) rfl
theorem qc_yX6_shiftWeight : Cond.code yX6_shiftWeight cX6_shiftWeight 4 (some .int) ∈ AW := AW_of (qr_4 _ (List.mem_of_getElem? (l := tables_1_4) (i := 101) rfl)) rfl
theorem qm_L_53 : Cond.methodLink RL 53 yX5_parameter ∈ AW := AW_of (qr_2 _ (List.mem_of_getElem? (l := tables_1_2) (i := 96) rfl)) rfl
theorem qn_yX5_parameter : Cond.instanceMethod yX5_parameter ∈ AW := AW_of (qr_2 _ (List.mem_of_getElem? (l := tables_1_2) (i := 97) rfl)) rfl
theorem qs_yX5_parameter : Cond.selects RX5 yX5_parameter yX5_parameter ∈ AW := AW_of (qr_2 _ (List.mem_of_getElem? (l := tables_1_2) (i := 98) rfl)) rfl
theorem qc_yX5_parameter : Cond.code yX5_parameter cX5_parameter 2 (some .int) ∈ AW := AW_of (qr_2 _ (List.mem_of_getElem? (l := tables_1_2) (i := 99) rfl)) rfl
theorem qm_L_56 : Cond.methodLink RL 56 yX6_parameter ∈ AW := AW_of (qr_4 _ (List.mem_of_getElem? (l := tables_1_4) (i := 102) rfl)) rfl
theorem qn_yX6_parameter : Cond.instanceMethod yX6_parameter ∈ AW := AW_of (qr_4 _ (List.mem_of_getElem? (l := tables_1_4) (i := 103) rfl)) rfl
theorem qs_yX6_parameter : Cond.selects RX6 yX6_parameter yX6_parameter ∈ AW := AW_of (qr_4 _ (List.mem_of_getElem? (l := tables_1_4) (i := 104) rfl)) rfl
theorem qc_yX6_parameter : Cond.code yX6_parameter cX6_parameter 2 (some .int) ∈ AW := AW_of (qr_4 _ (List.mem_of_getElem? (l := tables_1_4) (i := 105) rfl)) rfl
theorem qm_L_57 : Cond.methodLink RL 57 yX5_worth ∈ AW := AW_of (qr_2 _ (List.mem_of_getElem? (l := tables_1_2) (i := 100) rfl)) rfl
theorem qn_yX5_worth : Cond.instanceMethod yX5_worth ∈ AW := AW_of (qr_2 _ (List.mem_of_getElem? (l := tables_1_2) (i := 101) rfl)) rfl
theorem qs_yX5_worth : Cond.selects RX5 yX5_worth yX5_worth ∈ AW := AW_of (qr_2 _ (List.mem_of_getElem? (l := tables_1_2) (i := 102) rfl)) rfl
theorem qc_yX5_worth : Cond.code yX5_worth cX5_worth 3 (some .long) ∈ AW := AW_of (qr_2 _ (List.mem_of_getElem? (l := tables_1_2) (i := 103) rfl)) rfl
theorem ql_X5_112 : Cond.constantLong RX5 112 (-4000000000000000000) ∈ AW := AW_of (qr_2 _ (List.mem_of_getElem? (l := tables_1_2) (i := 112) rfl)) rfl
theorem ql_X5_121 : Cond.constantLong RX5 121 (2116800) ∈ AW := AW_of (qr_2 _ (List.mem_of_getElem? (l := tables_1_2) (i := 146) rfl)) rfl
theorem qm_X5_109 : Cond.methodLink RX5 109 yX5_isNoCandidate ∈ AW := AW_of (qr_2 _ (List.mem_of_getElem? (l := tables_1_2) (i := 104) rfl)) rfl
theorem qn_yX5_isNoCandidate : Cond.instanceMethod yX5_isNoCandidate ∈ AW := AW_of (qr_2 _ (List.mem_of_getElem? (l := tables_1_2) (i := 106) rfl)) rfl
theorem qs_yX5_isNoCandidate : Cond.selects RX5 yX5_isNoCandidate yX5_isNoCandidate ∈ AW := AW_of (List.mem_append_left _ (List.mem_of_getElem? (l := k2_sels lw_privs) (i := 11) rfl)) rfl
theorem qc_yX5_isNoCandidate : Cond.code yX5_isNoCandidate cX5_isNoCandidate 2 (some .boolean) ∈ AW := AW_of (qr_2 _ (List.mem_of_getElem? (l := tables_1_2) (i := 107) rfl)) rfl
theorem qm_X5_149 : Cond.methodLink RX5 149 yX5_candidates ∈ AW := AW_of (qr_2 _ (List.mem_of_getElem? (l := tables_1_2) (i := 108) rfl)) rfl
theorem qn_yX5_candidates : Cond.instanceMethod yX5_candidates ∈ AW := AW_of (qr_2 _ (List.mem_of_getElem? (l := tables_1_2) (i := 110) rfl)) rfl
theorem qs_yX5_candidates : Cond.selects RX5 yX5_candidates yX5_candidates ∈ AW := AW_of (List.mem_append_left _ (List.mem_of_getElem? (l := k2_sels lw_privs) (i := 12) rfl)) rfl
theorem qc_yX5_candidates : Cond.code yX5_candidates cX5_candidates 1 (some .int) ∈ AW := AW_of (qr_2 _ (List.mem_of_getElem? (l := tables_1_2) (i := 111) rfl)) rfl
theorem qm_X5_114 : Cond.methodLink RX5 114 yX1_solve ∈ AW := AW_of (qr_2 _ (List.mem_of_getElem? (l := tables_1_2) (i := 113) rfl)) rfl
theorem qn_yX1_solve : Cond.instanceMethod yX1_solve ∈ AW := AW_of (qr_2 _ (List.mem_of_getElem? (l := tables_1_2) (i := 114) rfl)) rfl
theorem qs_yX1_solve : Cond.selects RX1 yX1_solve yX1_solve ∈ AW := AW_of (qr_2 _ (List.mem_of_getElem? (l := tables_1_2) (i := 115) rfl)) rfl
theorem qc_yX1_solve : Cond.code yX1_solve cX1_solve 4 none ∈ AW := AW_of (qr_2 _ (List.mem_of_getElem? (l := tables_1_2) (i := 116) rfl)) rfl
theorem qf_X1_33 : Cond.fieldLink RX1 33 "StoppingPlanner$RankProblem" "n" "I" ∈ AW := AW_of (qr_1 _ (List.mem_of_getElem? (l := tables_1_1) (i := 87) rfl)) rfl
theorem ql_X1_37 : Cond.constantLong RX1 37 (2116800) ∈ AW := AW_of (qr_2 _ (List.mem_of_getElem? (l := tables_1_2) (i := 117) rfl)) rfl
theorem qf_X1_39 : Cond.fieldLink RX1 39 "StoppingPlanner$RankProblem" "cost" "J" ∈ AW := AW_of (qr_1 _ (List.mem_of_getElem? (l := tables_1_1) (i := 88) rfl)) rfl
theorem qm_X1_54 : Cond.methodLink RX1 54 Lib.MathLoose.max_long.x ∈ AW := AW_of (qr_2 _ (List.mem_of_getElem? (l := tables_1_2) (i := 142) rfl)) rfl
theorem qt_Lib_MathLoose_max_long_x : Cond.static Lib.MathLoose.max_long.x ∈ AW := AW_of (qr_2 _ (List.mem_of_getElem? (l := tables_1_2) (i := 143) rfl)) rfl
theorem qz_java_lang_Math : Cond.initialized "java/lang/Math" ∈ AW := AW_of (qr_1 _ (List.mem_of_getElem? (l := tables_1_1) (i := 9) rfl)) rfl
theorem qc_Lib_MathLoose_max_long_x : Cond.code Lib.MathLoose.max_long.x Lib.MathLoose.max_long.code 4 (some .long) ∈ AW := AW_of (qr_2 _ (List.mem_of_getElem? (l := tables_1_2) (i := 144) (by decide +kernel))) rfl
theorem qm_X1_43 : Cond.methodLink RX1 43 yX1_computeWorth ∈ AW := AW_of (qr_2 _ (List.mem_of_getElem? (l := tables_1_2) (i := 118) rfl)) rfl
theorem qn_yX1_computeWorth : Cond.instanceMethod yX1_computeWorth ∈ AW := AW_of (qr_2 _ (List.mem_of_getElem? (l := tables_1_2) (i := 120) rfl)) rfl
theorem qs_yX1_computeWorth : Cond.selects RX1 yX1_computeWorth yX1_computeWorth ∈ AW := AW_of (List.mem_append_left _ (List.mem_of_getElem? (l := k2_sels lw_privs) (i := 13) rfl)) rfl
theorem qc_yX1_computeWorth : Cond.code yX1_computeWorth cX1_computeWorth 9 (some .long) ∈ AW := AW_of (qr_2 _ (List.mem_of_getElem? (l := tables_1_2) (i := 121) rfl)) rfl
theorem qm_X1_71 : Cond.methodLink RX1 71 yX1_binomial ∈ AW := AW_of (qr_2 _ (List.mem_of_getElem? (l := tables_1_2) (i := 122) rfl)) rfl
theorem qt_yX1_binomial : Cond.static yX1_binomial ∈ AW := AW_of (qr_2 _ (List.mem_of_getElem? (l := tables_1_2) (i := 123) rfl)) rfl
theorem qc_yX1_binomial : Cond.code yX1_binomial cX1_binomial 2 (some .int) ∈ AW := AW_of (qr_2 _ (List.mem_of_getElem? (l := tables_1_2) (i := 124) rfl)) rfl
theorem qf_X1_67 : Cond.fieldLink RX1 67 "StoppingPlanner$RankProblem" "BINOMIALS" "[I" ∈ AW := AW_of (qr_2 _ (List.mem_of_getElem? (l := tables_1_2) (i := 125) rfl)) rfl
theorem qm_X1_47 : Cond.methodLink RX1 47 yX1_clearEnds ∈ AW := AW_of (qr_2 _ (List.mem_of_getElem? (l := tables_1_2) (i := 127) rfl)) rfl
theorem qn_yX1_clearEnds : Cond.instanceMethod yX1_clearEnds ∈ AW := AW_of (qr_2 _ (List.mem_of_getElem? (l := tables_1_2) (i := 129) rfl)) rfl
theorem qs_yX1_clearEnds : Cond.selects RX1 yX1_clearEnds yX1_clearEnds ∈ AW := AW_of (List.mem_append_left _ (List.mem_of_getElem? (l := k2_sels lw_privs) (i := 14) rfl)) rfl
theorem qc_yX1_clearEnds : Cond.code yX1_clearEnds cX1_clearEnds 3 none ∈ AW := AW_of (qr_2 _ (List.mem_of_getElem? (l := tables_1_2) (i := 130) rfl)) rfl
theorem qm_X1_21 : Cond.methodLink RX1 21 yX1_place ∈ AW := AW_of (qr_2 _ (List.mem_of_getElem? (l := tables_1_2) (i := 131) rfl)) rfl
theorem qt_yX1_place : Cond.static yX1_place ∈ AW := AW_of (qr_2 _ (List.mem_of_getElem? (l := tables_1_2) (i := 132) rfl)) rfl
theorem qc_yX1_place : Cond.code yX1_place cX1_place 2 (some .int) ∈ AW := AW_of (qr_2 _ (List.mem_of_getElem? (l := tables_1_2) (i := 133) rfl)) rfl
theorem qm_X1_51 : Cond.methodLink RX1 51 yX1_meanOfBest ∈ AW := AW_of (qr_2 _ (List.mem_of_getElem? (l := tables_1_2) (i := 134) rfl)) rfl
theorem qn_yX1_meanOfBest : Cond.instanceMethod yX1_meanOfBest ∈ AW := AW_of (qr_2 _ (List.mem_of_getElem? (l := tables_1_2) (i := 136) rfl)) rfl
theorem qs_yX1_meanOfBest : Cond.selects RX1 yX1_meanOfBest yX1_meanOfBest ∈ AW := AW_of (List.mem_append_left _ (List.mem_of_getElem? (l := k2_sels lw_privs) (i := 15) rfl)) rfl
theorem qc_yX1_meanOfBest : Cond.code yX1_meanOfBest cX1_meanOfBest 10 (some .long) ∈ AW := AW_of (qr_2 _ (List.mem_of_getElem? (l := tables_1_2) (i := 137) rfl)) rfl
theorem qm_X1_25 : Cond.methodLink RX1 25 yX1_worthOf ∈ AW := AW_of (qr_2 _ (List.mem_of_getElem? (l := tables_1_2) (i := 138) rfl)) rfl
theorem qn_yX1_worthOf : Cond.instanceMethod yX1_worthOf ∈ AW := AW_of (qr_2 _ (List.mem_of_getElem? (l := tables_1_2) (i := 139) rfl)) rfl
theorem qs_yX1_worthOf : Cond.selects RX1 yX1_worthOf yX1_worthOf ∈ AW := AW_of (qr_2 _ (List.mem_of_getElem? (l := tables_1_2) (i := 140) rfl)) rfl
theorem qc_yX1_worthOf : Cond.code yX1_worthOf cX1_worthOf 3 (some .long) ∈ AW := AW_of (qr_2 _ (List.mem_of_getElem? (l := tables_1_2) (i := 141) rfl)) rfl
theorem qm_X5_117 : Cond.methodLink RX5 117 yX1_worthOf ∈ AW := AW_of (qr_2 _ (List.mem_of_getElem? (l := tables_1_2) (i := 145) rfl)) rfl
theorem qm_X5_123 : Cond.methodLink RX5 123 yX5_fraction ∈ AW := AW_of (qr_2 _ (List.mem_of_getElem? (l := tables_1_2) (i := 147) rfl)) rfl
theorem qn_yX5_fraction : Cond.instanceMethod yX5_fraction ∈ AW := AW_of (qr_2 _ (List.mem_of_getElem? (l := tables_1_2) (i := 149) rfl)) rfl
theorem qs_yX5_fraction : Cond.selects RX5 yX5_fraction yX5_fraction ∈ AW := AW_of (List.mem_append_left _ (List.mem_of_getElem? (l := k2_sels lw_privs) (i := 16) rfl)) rfl
theorem qc_yX5_fraction : Cond.code yX5_fraction cX5_fraction 7 (some .long) ∈ AW := AW_of (qr_2 _ (List.mem_of_getElem? (l := tables_1_2) (i := 150) rfl)) rfl
theorem qm_X5_255 : Cond.methodLink RX5 255 Lib.MathLoose.abs_long.x ∈ AW := AW_of (qr_2 _ (List.mem_of_getElem? (l := tables_1_2) (i := 151) rfl)) rfl
theorem qt_Lib_MathLoose_abs_long_x : Cond.static Lib.MathLoose.abs_long.x ∈ AW := AW_of (qr_2 _ (List.mem_of_getElem? (l := tables_1_2) (i := 152) rfl)) rfl
theorem qc_Lib_MathLoose_abs_long_x : Cond.code Lib.MathLoose.abs_long.x Lib.MathLoose.abs_long.code 2 (some .long) ∈ AW := AW_of (qr_2 _ (List.mem_of_getElem? (l := tables_1_2) (i := 153) (by decide +kernel))) rfl
theorem qm_X5_260 : Cond.methodLink RX5 260 yX5_commonDivisor ∈ AW := AW_of (qr_2 _ (List.mem_of_getElem? (l := tables_1_2) (i := 154) rfl)) rfl
theorem qt_yX5_commonDivisor : Cond.static yX5_commonDivisor ∈ AW := AW_of (qr_2 _ (List.mem_of_getElem? (l := tables_1_2) (i := 155) rfl)) rfl
theorem qc_yX5_commonDivisor : Cond.code yX5_commonDivisor cX5_commonDivisor 11 (some .long) ∈ AW := AW_of (qr_2 _ (List.mem_of_getElem? (l := tables_1_2) (i := 156) rfl)) rfl
theorem qm_X5_263 : Cond.methodLink RX5 263 Lib.MathLoose.max_long.x ∈ AW := AW_of (qr_2 _ (List.mem_of_getElem? (l := tables_1_2) (i := 157) rfl)) rfl
theorem qm_L_61 : Cond.methodLink RL 61 yX6_worth ∈ AW := AW_of (qr_4 _ (List.mem_of_getElem? (l := tables_1_4) (i := 156) rfl)) rfl
theorem qn_yX6_worth : Cond.instanceMethod yX6_worth ∈ AW := AW_of (qr_4 _ (List.mem_of_getElem? (l := tables_1_4) (i := 157) rfl)) rfl
theorem qs_yX6_worth : Cond.selects RX6 yX6_worth yX6_worth ∈ AW := AW_of (qr_4 _ (List.mem_of_getElem? (l := tables_1_4) (i := 158) rfl)) rfl
theorem qc_yX6_worth : Cond.code yX6_worth cX6_worth 3 (some .long) ∈ AW := AW_of (qr_4 _ (List.mem_of_getElem? (l := tables_1_4) (i := 159) rfl)) rfl
theorem ql_X6_176 : Cond.constantLong RX6 176 (-4000000000000000000) ∈ AW := AW_of (qr_4 _ (List.mem_of_getElem? (l := tables_1_4) (i := 168) rfl)) rfl
theorem ql_X6_130 : Cond.constantLong RX6 130 (5040) ∈ AW := AW_of (qr_4 _ (List.mem_of_getElem? (l := tables_1_4) (i := 184) rfl)) rfl
theorem qm_X6_172 : Cond.methodLink RX6 172 yX6_isCandidate ∈ AW := AW_of (qr_4 _ (List.mem_of_getElem? (l := tables_1_4) (i := 160) rfl)) rfl
theorem qn_yX6_isCandidate : Cond.instanceMethod yX6_isCandidate ∈ AW := AW_of (qr_4 _ (List.mem_of_getElem? (l := tables_1_4) (i := 162) rfl)) rfl
theorem qs_yX6_isCandidate : Cond.selects RX6 yX6_isCandidate yX6_isCandidate ∈ AW := AW_of (List.mem_append_left _ (List.mem_of_getElem? (l := k2_sels lw_privs) (i := 53) rfl)) rfl
theorem qc_yX6_isCandidate : Cond.code yX6_isCandidate cX6_isCandidate 2 (some .boolean) ∈ AW := AW_of (qr_4 _ (List.mem_of_getElem? (l := tables_1_4) (i := 163) rfl)) rfl
theorem qm_X6_123 : Cond.methodLink RX6 123 yX6_n ∈ AW := AW_of (qr_4 _ (List.mem_of_getElem? (l := tables_1_4) (i := 164) rfl)) rfl
theorem qn_yX6_n : Cond.instanceMethod yX6_n ∈ AW := AW_of (qr_4 _ (List.mem_of_getElem? (l := tables_1_4) (i := 166) rfl)) rfl
theorem qs_yX6_n : Cond.selects RX6 yX6_n yX6_n ∈ AW := AW_of (List.mem_append_left _ (List.mem_of_getElem? (l := k2_sels lw_privs) (i := 54) rfl)) rfl
theorem qc_yX6_n : Cond.code yX6_n cX6_n 1 (some .int) ∈ AW := AW_of (qr_4 _ (List.mem_of_getElem? (l := tables_1_4) (i := 167) rfl)) rfl
theorem qm_X6_178 : Cond.methodLink RX6 178 yX6_knows ∈ AW := AW_of (qr_4 _ (List.mem_of_getElem? (l := tables_1_4) (i := 169) rfl)) rfl
theorem qn_yX6_knows : Cond.instanceMethod yX6_knows ∈ AW := AW_of (qr_4 _ (List.mem_of_getElem? (l := tables_1_4) (i := 171) rfl)) rfl
theorem qs_yX6_knows : Cond.selects RX6 yX6_knows yX6_knows ∈ AW := AW_of (List.mem_append_left _ (List.mem_of_getElem? (l := k2_sels lw_privs) (i := 55) rfl)) rfl
theorem qc_yX6_knows : Cond.code yX6_knows cX6_knows 1 none ∈ AW := AW_of (qr_4 _ (List.mem_of_getElem? (l := tables_1_4) (i := 172) rfl)) rfl
theorem qm_X6_166 : Cond.methodLink RX6 166 yX6_findsRanks ∈ AW := AW_of (qr_4 _ (List.mem_of_getElem? (l := tables_1_4) (i := 173) rfl)) rfl
theorem qn_yX6_findsRanks : Cond.instanceMethod yX6_findsRanks ∈ AW := AW_of (qr_4 _ (List.mem_of_getElem? (l := tables_1_4) (i := 175) rfl)) rfl
theorem qs_yX6_findsRanks : Cond.selects RX6 yX6_findsRanks yX6_findsRanks ∈ AW := AW_of (List.mem_append_left _ (List.mem_of_getElem? (l := k2_sels lw_privs) (i := 56) rfl)) rfl
theorem qc_yX6_findsRanks : Cond.code yX6_findsRanks cX6_findsRanks 5 none ∈ AW := AW_of (qr_4 _ (List.mem_of_getElem? (l := tables_1_4) (i := 176) rfl)) rfl
theorem qm_X6_132 : Cond.methodLink RX6 132 yX6_worthOf ∈ AW := AW_of (qr_4 _ (List.mem_of_getElem? (l := tables_1_4) (i := 177) rfl)) rfl
theorem qn_yX6_worthOf : Cond.instanceMethod yX6_worthOf ∈ AW := AW_of (qr_4 _ (List.mem_of_getElem? (l := tables_1_4) (i := 179) rfl)) rfl
theorem qs_yX6_worthOf : Cond.selects RX6 yX6_worthOf yX6_worthOf ∈ AW := AW_of (List.mem_append_left _ (List.mem_of_getElem? (l := k2_sels lw_privs) (i := 57) rfl)) rfl
theorem qc_yX6_worthOf : Cond.code yX6_worthOf cX6_worthOf 6 (some .long) ∈ AW := AW_of (qr_4 _ (List.mem_of_getElem? (l := tables_1_4) (i := 180) rfl)) rfl
theorem qm_X6_126 : Cond.methodLink RX6 126 yX6_choose ∈ AW := AW_of (qr_4 _ (List.mem_of_getElem? (l := tables_1_4) (i := 181) rfl)) rfl
theorem qt_yX6_choose : Cond.static yX6_choose ∈ AW := AW_of (qr_4 _ (List.mem_of_getElem? (l := tables_1_4) (i := 182) rfl)) rfl
theorem qc_yX6_choose : Cond.code yX6_choose cX6_choose 5 (some .long) ∈ AW := AW_of (qr_4 _ (List.mem_of_getElem? (l := tables_1_4) (i := 183) rfl)) rfl
theorem qm_X6_135 : Cond.methodLink RX6 135 yX6_meanAt ∈ AW := AW_of (qr_4 _ (List.mem_of_getElem? (l := tables_1_4) (i := 185) rfl)) rfl
theorem qn_yX6_meanAt : Cond.instanceMethod yX6_meanAt ∈ AW := AW_of (qr_4 _ (List.mem_of_getElem? (l := tables_1_4) (i := 187) rfl)) rfl
theorem qs_yX6_meanAt : Cond.selects RX6 yX6_meanAt yX6_meanAt ∈ AW := AW_of (List.mem_append_left _ (List.mem_of_getElem? (l := k2_sels lw_privs) (i := 58) rfl)) rfl
theorem qc_yX6_meanAt : Cond.code yX6_meanAt cX6_meanAt 10 (some .long) ∈ AW := AW_of (qr_4 _ (List.mem_of_getElem? (l := tables_1_4) (i := 188) rfl)) rfl
theorem qm_X6_138 : Cond.methodLink RX6 138 yX6_at ∈ AW := AW_of (qr_4 _ (List.mem_of_getElem? (l := tables_1_4) (i := 189) rfl)) rfl
theorem qt_yX6_at : Cond.static yX6_at ∈ AW := AW_of (qr_4 _ (List.mem_of_getElem? (l := tables_1_4) (i := 190) rfl)) rfl
theorem qc_yX6_at : Cond.code yX6_at cX6_at 2 (some .int) ∈ AW := AW_of (qr_4 _ (List.mem_of_getElem? (l := tables_1_4) (i := 191) rfl)) rfl
theorem qm_X6_169 : Cond.methodLink RX6 169 yX6_findsValues ∈ AW := AW_of (qr_4 _ (List.mem_of_getElem? (l := tables_1_4) (i := 192) rfl)) rfl
theorem qn_yX6_findsValues : Cond.instanceMethod yX6_findsValues ∈ AW := AW_of (qr_4 _ (List.mem_of_getElem? (l := tables_1_4) (i := 194) rfl)) rfl
theorem qs_yX6_findsValues : Cond.selects RX6 yX6_findsValues yX6_findsValues ∈ AW := AW_of (List.mem_append_left _ (List.mem_of_getElem? (l := k2_sels lw_privs) (i := 59) rfl)) rfl
theorem qc_yX6_findsValues : Cond.code yX6_findsValues cX6_findsValues 6 none ∈ AW := AW_of (qr_4 _ (List.mem_of_getElem? (l := tables_1_4) (i := 195) rfl)) rfl
theorem ql_X6_146 : Cond.constantLong RX6 146 (1000000000000000) ∈ AW := AW_of (qr_4 _ (List.mem_of_getElem? (l := tables_1_4) (i := 204) rfl)) rfl
theorem qm_X6_154 : Cond.methodLink RX6 154 yX6_drawnAt ∈ AW := AW_of (qr_4 _ (List.mem_of_getElem? (l := tables_1_4) (i := 196) rfl)) rfl
theorem qn_yX6_drawnAt : Cond.instanceMethod yX6_drawnAt ∈ AW := AW_of (qr_4 _ (List.mem_of_getElem? (l := tables_1_4) (i := 198) rfl)) rfl
theorem qs_yX6_drawnAt : Cond.selects RX6 yX6_drawnAt yX6_drawnAt ∈ AW := AW_of (List.mem_append_left _ (List.mem_of_getElem? (l := k2_sels lw_privs) (i := 60) rfl)) rfl
theorem qc_yX6_drawnAt : Cond.code yX6_drawnAt cX6_drawnAt 11 (some .long) ∈ AW := AW_of (qr_4 _ (List.mem_of_getElem? (l := tables_1_4) (i := 199) rfl)) rfl
theorem ql_X6_152 : Cond.constantLong RX6 152 (10) ∈ AW := AW_of (qr_4 _ (List.mem_of_getElem? (l := tables_1_4) (i := 208) rfl)) rfl
theorem qm_X6_143 : Cond.methodLink RX6 143 yX6_valueOf ∈ AW := AW_of (qr_4 _ (List.mem_of_getElem? (l := tables_1_4) (i := 200) rfl)) rfl
theorem qn_yX6_valueOf : Cond.instanceMethod yX6_valueOf ∈ AW := AW_of (qr_4 _ (List.mem_of_getElem? (l := tables_1_4) (i := 202) rfl)) rfl
theorem qs_yX6_valueOf : Cond.selects RX6 yX6_valueOf yX6_valueOf ∈ AW := AW_of (List.mem_append_left _ (List.mem_of_getElem? (l := k2_sels lw_privs) (i := 61) rfl)) rfl
theorem qc_yX6_valueOf : Cond.code yX6_valueOf cX6_valueOf 2 (some .int) ∈ AW := AW_of (qr_4 _ (List.mem_of_getElem? (l := tables_1_4) (i := 203) rfl)) rfl
theorem qm_X6_148 : Cond.methodLink RX6 148 yX6_spotOf ∈ AW := AW_of (qr_4 _ (List.mem_of_getElem? (l := tables_1_4) (i := 205) rfl)) rfl
theorem qt_yX6_spotOf : Cond.static yX6_spotOf ∈ AW := AW_of (qr_4 _ (List.mem_of_getElem? (l := tables_1_4) (i := 206) rfl)) rfl
theorem qc_yX6_spotOf : Cond.code yX6_spotOf cX6_spotOf 4 (some .int) ∈ AW := AW_of (qr_4 _ (List.mem_of_getElem? (l := tables_1_4) (i := 207) rfl)) rfl
theorem qm_X6_158 : Cond.methodLink RX6 158 yX6_bestAt ∈ AW := AW_of (qr_4 _ (List.mem_of_getElem? (l := tables_1_4) (i := 209) rfl)) rfl
theorem qn_yX6_bestAt : Cond.instanceMethod yX6_bestAt ∈ AW := AW_of (qr_4 _ (List.mem_of_getElem? (l := tables_1_4) (i := 211) rfl)) rfl
theorem qs_yX6_bestAt : Cond.selects RX6 yX6_bestAt yX6_bestAt ∈ AW := AW_of (List.mem_append_left _ (List.mem_of_getElem? (l := k2_sels lw_privs) (i := 62) rfl)) rfl
theorem qc_yX6_bestAt : Cond.code yX6_bestAt cX6_bestAt 10 (some .long) ∈ AW := AW_of (qr_4 _ (List.mem_of_getElem? (l := tables_1_4) (i := 212) rfl)) rfl
theorem qm_X6_162 : Cond.methodLink RX6 162 yX6_recallAt ∈ AW := AW_of (qr_4 _ (List.mem_of_getElem? (l := tables_1_4) (i := 213) rfl)) rfl
theorem qn_yX6_recallAt : Cond.instanceMethod yX6_recallAt ∈ AW := AW_of (qr_4 _ (List.mem_of_getElem? (l := tables_1_4) (i := 215) rfl)) rfl
theorem qs_yX6_recallAt : Cond.selects RX6 yX6_recallAt yX6_recallAt ∈ AW := AW_of (List.mem_append_left _ (List.mem_of_getElem? (l := k2_sels lw_privs) (i := 63) rfl)) rfl
theorem qc_yX6_recallAt : Cond.code yX6_recallAt cX6_recallAt 11 (some .long) ∈ AW := AW_of (qr_4 _ (List.mem_of_getElem? (l := tables_1_4) (i := 216) rfl)) rfl
theorem ql_X6_141 : Cond.constantLong RX6 141 (-1) ∈ AW := AW_of (qr_4 _ (List.mem_of_getElem? (l := tables_1_4) (i := 217) rfl)) rfl
theorem qm_X6_181 : Cond.methodLink RX6 181 yX6_told ∈ AW := AW_of (qr_4 _ (List.mem_of_getElem? (l := tables_1_4) (i := 218) rfl)) rfl
theorem qn_yX6_told : Cond.instanceMethod yX6_told ∈ AW := AW_of (qr_4 _ (List.mem_of_getElem? (l := tables_1_4) (i := 220) rfl)) rfl
theorem qs_yX6_told : Cond.selects RX6 yX6_told yX6_told ∈ AW := AW_of (List.mem_append_left _ (List.mem_of_getElem? (l := k2_sels lw_privs) (i := 64) rfl)) rfl
theorem qc_yX6_told : Cond.code yX6_told cX6_told 7 (some .long) ∈ AW := AW_of (qr_4 _ (List.mem_of_getElem? (l := tables_1_4) (i := 221) rfl)) rfl
theorem qm_X6_119 : Cond.methodLink RX6 119 yX6_divisor ∈ AW := AW_of (qr_4 _ (List.mem_of_getElem? (l := tables_1_4) (i := 222) rfl)) rfl
theorem qt_yX6_divisor : Cond.static yX6_divisor ∈ AW := AW_of (qr_4 _ (List.mem_of_getElem? (l := tables_1_4) (i := 223) rfl)) rfl
theorem qc_yX6_divisor : Cond.code yX6_divisor cX6_divisor 10 (some .long) ∈ AW := AW_of (qr_4 _ (List.mem_of_getElem? (l := tables_1_4) (i := 224) rfl)) rfl
theorem qm_L_62 : Cond.methodLink RL 62 yX5_rankValue ∈ AW := AW_of (qr_2 _ (List.mem_of_getElem? (l := tables_1_2) (i := 158) rfl)) rfl
theorem qn_yX5_rankValue : Cond.instanceMethod yX5_rankValue ∈ AW := AW_of (qr_2 _ (List.mem_of_getElem? (l := tables_1_2) (i := 159) rfl)) rfl
theorem qs_yX5_rankValue : Cond.selects RX5 yX5_rankValue yX5_rankValue ∈ AW := AW_of (qr_2 _ (List.mem_of_getElem? (l := tables_1_2) (i := 160) rfl)) rfl
theorem qc_yX5_rankValue : Cond.code yX5_rankValue cX5_rankValue 3 (some .long) ∈ AW := AW_of (qr_2 _ (List.mem_of_getElem? (l := tables_1_2) (i := 161) rfl)) rfl
theorem qm_X5_127 : Cond.methodLink RX5 127 yX5_isNoPlace ∈ AW := AW_of (qr_2 _ (List.mem_of_getElem? (l := tables_1_2) (i := 162) rfl)) rfl
theorem qn_yX5_isNoPlace : Cond.instanceMethod yX5_isNoPlace ∈ AW := AW_of (qr_2 _ (List.mem_of_getElem? (l := tables_1_2) (i := 164) rfl)) rfl
theorem qs_yX5_isNoPlace : Cond.selects RX5 yX5_isNoPlace yX5_isNoPlace ∈ AW := AW_of (List.mem_append_left _ (List.mem_of_getElem? (l := k2_sels lw_privs) (i := 17) rfl)) rfl
theorem qc_yX5_isNoPlace : Cond.code yX5_isNoPlace cX5_isNoPlace 2 (some .boolean) ∈ AW := AW_of (qr_2 _ (List.mem_of_getElem? (l := tables_1_2) (i := 165) rfl)) rfl
theorem qm_X5_130 : Cond.methodLink RX5 130 yX5_isNoNumberLeft ∈ AW := AW_of (qr_2 _ (List.mem_of_getElem? (l := tables_1_2) (i := 166) rfl)) rfl
theorem qn_yX5_isNoNumberLeft : Cond.instanceMethod yX5_isNoNumberLeft ∈ AW := AW_of (qr_2 _ (List.mem_of_getElem? (l := tables_1_2) (i := 168) rfl)) rfl
theorem qs_yX5_isNoNumberLeft : Cond.selects RX5 yX5_isNoNumberLeft yX5_isNoNumberLeft ∈ AW := AW_of (List.mem_append_left _ (List.mem_of_getElem? (l := k2_sels lw_privs) (i := 18) rfl)) rfl
theorem qc_yX5_isNoNumberLeft : Cond.code yX5_isNoNumberLeft cX5_isNoNumberLeft 2 (some .boolean) ∈ AW := AW_of (qr_2 _ (List.mem_of_getElem? (l := tables_1_2) (i := 169) rfl)) rfl
theorem qm_X5_143 : Cond.methodLink RX5 143 yX5_choices ∈ AW := AW_of (qr_2 _ (List.mem_of_getElem? (l := tables_1_2) (i := 170) rfl)) rfl
theorem qn_yX5_choices : Cond.instanceMethod yX5_choices ∈ AW := AW_of (qr_2 _ (List.mem_of_getElem? (l := tables_1_2) (i := 172) rfl)) rfl
theorem qs_yX5_choices : Cond.selects RX5 yX5_choices yX5_choices ∈ AW := AW_of (List.mem_append_left _ (List.mem_of_getElem? (l := k2_sels lw_privs) (i := 19) rfl)) rfl
theorem qc_yX5_choices : Cond.code yX5_choices cX5_choices 1 (some .int) ∈ AW := AW_of (qr_2 _ (List.mem_of_getElem? (l := tables_1_2) (i := 173) rfl)) rfl
theorem qm_X5_133 : Cond.methodLink RX5 133 yX1_valueBefore ∈ AW := AW_of (qr_2 _ (List.mem_of_getElem? (l := tables_1_2) (i := 174) rfl)) rfl
theorem qn_yX1_valueBefore : Cond.instanceMethod yX1_valueBefore ∈ AW := AW_of (qr_2 _ (List.mem_of_getElem? (l := tables_1_2) (i := 175) rfl)) rfl
theorem qs_yX1_valueBefore : Cond.selects RX1 yX1_valueBefore yX1_valueBefore ∈ AW := AW_of (qr_2 _ (List.mem_of_getElem? (l := tables_1_2) (i := 176) rfl)) rfl
theorem qc_yX1_valueBefore : Cond.code yX1_valueBefore cX1_valueBefore 3 (some .long) ∈ AW := AW_of (qr_2 _ (List.mem_of_getElem? (l := tables_1_2) (i := 177) rfl)) rfl
theorem qm_L_65 : Cond.methodLink RL 65 yX6_rankValue ∈ AW := AW_of (qr_4 _ (List.mem_of_getElem? (l := tables_1_4) (i := 225) rfl)) rfl
theorem qn_yX6_rankValue : Cond.instanceMethod yX6_rankValue ∈ AW := AW_of (qr_4 _ (List.mem_of_getElem? (l := tables_1_4) (i := 226) rfl)) rfl
theorem qs_yX6_rankValue : Cond.selects RX6 yX6_rankValue yX6_rankValue ∈ AW := AW_of (qr_4 _ (List.mem_of_getElem? (l := tables_1_4) (i := 227) rfl)) rfl
theorem qc_yX6_rankValue : Cond.code yX6_rankValue cX6_rankValue 3 (some .long) ∈ AW := AW_of (qr_4 _ (List.mem_of_getElem? (l := tables_1_4) (i := 228) rfl)) rfl
theorem qm_X6_184 : Cond.methodLink RX6 184 yX6_k ∈ AW := AW_of (qr_4 _ (List.mem_of_getElem? (l := tables_1_4) (i := 229) rfl)) rfl
theorem qn_yX6_k : Cond.instanceMethod yX6_k ∈ AW := AW_of (qr_4 _ (List.mem_of_getElem? (l := tables_1_4) (i := 231) rfl)) rfl
theorem qs_yX6_k : Cond.selects RX6 yX6_k yX6_k ∈ AW := AW_of (List.mem_append_left _ (List.mem_of_getElem? (l := k2_sels lw_privs) (i := 65) rfl)) rfl
theorem qc_yX6_k : Cond.code yX6_k cX6_k 1 (some .int) ∈ AW := AW_of (qr_4 _ (List.mem_of_getElem? (l := tables_1_4) (i := 232) rfl)) rfl
theorem qm_L_66 : Cond.methodLink RL 66 yX5_choosesRank ∈ AW := AW_of (qr_2 _ (List.mem_of_getElem? (l := tables_1_2) (i := 178) rfl)) rfl
theorem qn_yX5_choosesRank : Cond.instanceMethod yX5_choosesRank ∈ AW := AW_of (qr_2 _ (List.mem_of_getElem? (l := tables_1_2) (i := 179) rfl)) rfl
theorem qs_yX5_choosesRank : Cond.selects RX5 yX5_choosesRank yX5_choosesRank ∈ AW := AW_of (qr_2 _ (List.mem_of_getElem? (l := tables_1_2) (i := 180) rfl)) rfl
theorem qc_yX5_choosesRank : Cond.code yX5_choosesRank cX5_choosesRank 4 (some .int) ∈ AW := AW_of (qr_2 _ (List.mem_of_getElem? (l := tables_1_2) (i := 181) rfl)) rfl
theorem qm_X5_136 : Cond.methodLink RX5 136 yX5_isNoChoiceLeft ∈ AW := AW_of (qr_2 _ (List.mem_of_getElem? (l := tables_1_2) (i := 182) rfl)) rfl
theorem qn_yX5_isNoChoiceLeft : Cond.instanceMethod yX5_isNoChoiceLeft ∈ AW := AW_of (qr_2 _ (List.mem_of_getElem? (l := tables_1_2) (i := 184) rfl)) rfl
theorem qs_yX5_isNoChoiceLeft : Cond.selects RX5 yX5_isNoChoiceLeft yX5_isNoChoiceLeft ∈ AW := AW_of (List.mem_append_left _ (List.mem_of_getElem? (l := k2_sels lw_privs) (i := 20) rfl)) rfl
theorem qc_yX5_isNoChoiceLeft : Cond.code yX5_isNoChoiceLeft cX5_isNoChoiceLeft 2 (some .boolean) ∈ AW := AW_of (qr_2 _ (List.mem_of_getElem? (l := tables_1_2) (i := 185) rfl)) rfl
theorem qm_X5_139 : Cond.methodLink RX5 139 yX1_takes ∈ AW := AW_of (qr_2 _ (List.mem_of_getElem? (l := tables_1_2) (i := 186) rfl)) rfl
theorem qn_yX1_takes : Cond.instanceMethod yX1_takes ∈ AW := AW_of (qr_2 _ (List.mem_of_getElem? (l := tables_1_2) (i := 187) rfl)) rfl
theorem qs_yX1_takes : Cond.selects RX1 yX1_takes yX1_takes ∈ AW := AW_of (qr_2 _ (List.mem_of_getElem? (l := tables_1_2) (i := 188) rfl)) rfl
theorem qc_yX1_takes : Cond.code yX1_takes cX1_takes 4 (some .boolean) ∈ AW := AW_of (qr_2 _ (List.mem_of_getElem? (l := tables_1_2) (i := 189) rfl)) rfl
theorem qm_L_69 : Cond.methodLink RL 69 yX6_choosesRank ∈ AW := AW_of (qr_4 _ (List.mem_of_getElem? (l := tables_1_4) (i := 233) rfl)) rfl
theorem qn_yX6_choosesRank : Cond.instanceMethod yX6_choosesRank ∈ AW := AW_of (qr_4 _ (List.mem_of_getElem? (l := tables_1_4) (i := 234) rfl)) rfl
theorem qs_yX6_choosesRank : Cond.selects RX6 yX6_choosesRank yX6_choosesRank ∈ AW := AW_of (qr_4 _ (List.mem_of_getElem? (l := tables_1_4) (i := 235) rfl)) rfl
theorem qc_yX6_choosesRank : Cond.code yX6_choosesRank cX6_choosesRank 4 (some .int) ∈ AW := AW_of (qr_4 _ (List.mem_of_getElem? (l := tables_1_4) (i := 236) rfl)) rfl
theorem qm_X6_187 : Cond.methodLink RX6 187 yX6_isChosen ∈ AW := AW_of (qr_4 _ (List.mem_of_getElem? (l := tables_1_4) (i := 237) rfl)) rfl
theorem qn_yX6_isChosen : Cond.instanceMethod yX6_isChosen ∈ AW := AW_of (qr_4 _ (List.mem_of_getElem? (l := tables_1_4) (i := 239) rfl)) rfl
theorem qs_yX6_isChosen : Cond.selects RX6 yX6_isChosen yX6_isChosen ∈ AW := AW_of (List.mem_append_left _ (List.mem_of_getElem? (l := k2_sels lw_privs) (i := 66) rfl)) rfl
theorem qc_yX6_isChosen : Cond.code yX6_isChosen cX6_isChosen 4 (some .boolean) ∈ AW := AW_of (qr_5 _ (List.mem_of_getElem? (l := tables_1_5) (i := 0) rfl)) rfl
theorem qm_L_70 : Cond.methodLink RL 70 yX5_rankThreshold ∈ AW := AW_of (qr_2 _ (List.mem_of_getElem? (l := tables_1_2) (i := 190) rfl)) rfl
theorem qn_yX5_rankThreshold : Cond.instanceMethod yX5_rankThreshold ∈ AW := AW_of (qr_2 _ (List.mem_of_getElem? (l := tables_1_2) (i := 191) rfl)) rfl
theorem qs_yX5_rankThreshold : Cond.selects RX5 yX5_rankThreshold yX5_rankThreshold ∈ AW := AW_of (qr_2 _ (List.mem_of_getElem? (l := tables_1_2) (i := 192) rfl)) rfl
theorem qc_yX5_rankThreshold : Cond.code yX5_rankThreshold cX5_rankThreshold 4 (some .int) ∈ AW := AW_of (qr_2 _ (List.mem_of_getElem? (l := tables_1_2) (i := 193) rfl)) rfl
theorem qm_L_73 : Cond.methodLink RL 73 yX6_rankThreshold ∈ AW := AW_of (qr_5 _ (List.mem_of_getElem? (l := tables_1_5) (i := 1) rfl)) rfl
theorem qn_yX6_rankThreshold : Cond.instanceMethod yX6_rankThreshold ∈ AW := AW_of (qr_5 _ (List.mem_of_getElem? (l := tables_1_5) (i := 2) rfl)) rfl
theorem qs_yX6_rankThreshold : Cond.selects RX6 yX6_rankThreshold yX6_rankThreshold ∈ AW := AW_of (qr_5 _ (List.mem_of_getElem? (l := tables_1_5) (i := 3) rfl)) rfl
theorem qc_yX6_rankThreshold : Cond.code yX6_rankThreshold cX6_rankThreshold 3 (some .int) ∈ AW := AW_of (qr_5 _ (List.mem_of_getElem? (l := tables_1_5) (i := 4) rfl)) rfl
theorem qm_X6_190 : Cond.methodLink RX6 190 yX6_thresholdAt ∈ AW := AW_of (qr_5 _ (List.mem_of_getElem? (l := tables_1_5) (i := 5) rfl)) rfl
theorem qn_yX6_thresholdAt : Cond.instanceMethod yX6_thresholdAt ∈ AW := AW_of (qr_5 _ (List.mem_of_getElem? (l := tables_1_5) (i := 7) rfl)) rfl
theorem qs_yX6_thresholdAt : Cond.selects RX6 yX6_thresholdAt yX6_thresholdAt ∈ AW := AW_of (List.mem_append_left _ (List.mem_of_getElem? (l := k2_sels lw_privs) (i := 67) rfl)) rfl
theorem qc_yX6_thresholdAt : Cond.code yX6_thresholdAt cX6_thresholdAt 4 (some .int) ∈ AW := AW_of (qr_5 _ (List.mem_of_getElem? (l := tables_1_5) (i := 8) rfl)) rfl
theorem qm_L_74 : Cond.methodLink RL 74 yX5_rankExpectation ∈ AW := AW_of (qr_2 _ (List.mem_of_getElem? (l := tables_1_2) (i := 194) rfl)) rfl
theorem qn_yX5_rankExpectation : Cond.instanceMethod yX5_rankExpectation ∈ AW := AW_of (qr_2 _ (List.mem_of_getElem? (l := tables_1_2) (i := 195) rfl)) rfl
theorem qs_yX5_rankExpectation : Cond.selects RX5 yX5_rankExpectation yX5_rankExpectation ∈ AW := AW_of (qr_2 _ (List.mem_of_getElem? (l := tables_1_2) (i := 196) rfl)) rfl
theorem qc_yX5_rankExpectation : Cond.code yX5_rankExpectation cX5_rankExpectation 2 (some .long) ∈ AW := AW_of (qr_2 _ (List.mem_of_getElem? (l := tables_1_2) (i := 197) rfl)) rfl
theorem qm_X5_146 : Cond.methodLink RX5 146 yX1_expected ∈ AW := AW_of (qr_2 _ (List.mem_of_getElem? (l := tables_1_2) (i := 198) rfl)) rfl
theorem qn_yX1_expected : Cond.instanceMethod yX1_expected ∈ AW := AW_of (qr_2 _ (List.mem_of_getElem? (l := tables_1_2) (i := 199) rfl)) rfl
theorem qs_yX1_expected : Cond.selects RX1 yX1_expected yX1_expected ∈ AW := AW_of (qr_2 _ (List.mem_of_getElem? (l := tables_1_2) (i := 200) rfl)) rfl
theorem qc_yX1_expected : Cond.code yX1_expected cX1_expected 9 (some .long) ∈ AW := AW_of (qr_2 _ (List.mem_of_getElem? (l := tables_1_2) (i := 201) rfl)) rfl
theorem qm_X1_60 : Cond.methodLink RX1 60 yX1_valueBefore ∈ AW := AW_of (qr_2 _ (List.mem_of_getElem? (l := tables_1_2) (i := 202) rfl)) rfl
theorem qm_X1_63 : Cond.methodLink RX1 63 yX1_meanFollowed ∈ AW := AW_of (qr_2 _ (List.mem_of_getElem? (l := tables_1_2) (i := 203) rfl)) rfl
theorem qn_yX1_meanFollowed : Cond.instanceMethod yX1_meanFollowed ∈ AW := AW_of (qr_2 _ (List.mem_of_getElem? (l := tables_1_2) (i := 205) rfl)) rfl
theorem qs_yX1_meanFollowed : Cond.selects RX1 yX1_meanFollowed yX1_meanFollowed ∈ AW := AW_of (List.mem_append_left _ (List.mem_of_getElem? (l := k2_sels lw_privs) (i := 21) rfl)) rfl
theorem qc_yX1_meanFollowed : Cond.code yX1_meanFollowed cX1_meanFollowed 7 (some .long) ∈ AW := AW_of (qr_2 _ (List.mem_of_getElem? (l := tables_1_2) (i := 206) rfl)) rfl
theorem qm_X1_74 : Cond.methodLink RX1 74 yX1_takes ∈ AW := AW_of (qr_2 _ (List.mem_of_getElem? (l := tables_1_2) (i := 207) rfl)) rfl
theorem qm_L_78 : Cond.methodLink RL 78 yX6_rankExpectation ∈ AW := AW_of (qr_5 _ (List.mem_of_getElem? (l := tables_1_5) (i := 9) rfl)) rfl
theorem qn_yX6_rankExpectation : Cond.instanceMethod yX6_rankExpectation ∈ AW := AW_of (qr_5 _ (List.mem_of_getElem? (l := tables_1_5) (i := 10) rfl)) rfl
theorem qs_yX6_rankExpectation : Cond.selects RX6 yX6_rankExpectation yX6_rankExpectation ∈ AW := AW_of (qr_5 _ (List.mem_of_getElem? (l := tables_1_5) (i := 11) rfl)) rfl
theorem qc_yX6_rankExpectation : Cond.code yX6_rankExpectation cX6_rankExpectation 2 (some .long) ∈ AW := AW_of (qr_5 _ (List.mem_of_getElem? (l := tables_1_5) (i := 12) rfl)) rfl
theorem qm_X6_193 : Cond.methodLink RX6 193 yX6_expects ∈ AW := AW_of (qr_5 _ (List.mem_of_getElem? (l := tables_1_5) (i := 13) rfl)) rfl
theorem qn_yX6_expects : Cond.instanceMethod yX6_expects ∈ AW := AW_of (qr_5 _ (List.mem_of_getElem? (l := tables_1_5) (i := 15) rfl)) rfl
theorem qs_yX6_expects : Cond.selects RX6 yX6_expects yX6_expects ∈ AW := AW_of (List.mem_append_left _ (List.mem_of_getElem? (l := k2_sels lw_privs) (i := 68) rfl)) rfl
theorem qc_yX6_expects : Cond.code yX6_expects cX6_expects 9 (some .long) ∈ AW := AW_of (qr_5 _ (List.mem_of_getElem? (l := tables_1_5) (i := 16) rfl)) rfl
theorem qm_L_79 : Cond.methodLink RL 79 yX5_skipping ∈ AW := AW_of (qr_2 _ (List.mem_of_getElem? (l := tables_1_2) (i := 208) rfl)) rfl
theorem qn_yX5_skipping : Cond.instanceMethod yX5_skipping ∈ AW := AW_of (qr_2 _ (List.mem_of_getElem? (l := tables_1_2) (i := 209) rfl)) rfl
theorem qs_yX5_skipping : Cond.selects RX5 yX5_skipping yX5_skipping ∈ AW := AW_of (qr_2 _ (List.mem_of_getElem? (l := tables_1_2) (i := 210) rfl)) rfl
theorem qc_yX5_skipping : Cond.code yX5_skipping cX5_skipping 2 (some .long) ∈ AW := AW_of (qr_2 _ (List.mem_of_getElem? (l := tables_1_2) (i := 211) rfl)) rfl
theorem qm_X5_152 : Cond.methodLink RX5 152 yX1_valueOfSkipping ∈ AW := AW_of (qr_2 _ (List.mem_of_getElem? (l := tables_1_2) (i := 212) rfl)) rfl
theorem qn_yX1_valueOfSkipping : Cond.instanceMethod yX1_valueOfSkipping ∈ AW := AW_of (qr_2 _ (List.mem_of_getElem? (l := tables_1_2) (i := 213) rfl)) rfl
theorem qs_yX1_valueOfSkipping : Cond.selects RX1 yX1_valueOfSkipping yX1_valueOfSkipping ∈ AW := AW_of (qr_2 _ (List.mem_of_getElem? (l := tables_1_2) (i := 214) rfl)) rfl
theorem qc_yX1_valueOfSkipping : Cond.code yX1_valueOfSkipping cX1_valueOfSkipping 11 (some .long) ∈ AW := AW_of (qr_2 _ (List.mem_of_getElem? (l := tables_1_2) (i := 215) rfl)) rfl
theorem qm_L_82 : Cond.methodLink RL 82 yX6_skipping ∈ AW := AW_of (qr_5 _ (List.mem_of_getElem? (l := tables_1_5) (i := 17) rfl)) rfl
theorem qn_yX6_skipping : Cond.instanceMethod yX6_skipping ∈ AW := AW_of (qr_5 _ (List.mem_of_getElem? (l := tables_1_5) (i := 18) rfl)) rfl
theorem qs_yX6_skipping : Cond.selects RX6 yX6_skipping yX6_skipping ∈ AW := AW_of (qr_5 _ (List.mem_of_getElem? (l := tables_1_5) (i := 19) rfl)) rfl
theorem qc_yX6_skipping : Cond.code yX6_skipping cX6_skipping 2 (some .long) ∈ AW := AW_of (qr_5 _ (List.mem_of_getElem? (l := tables_1_5) (i := 20) rfl)) rfl
theorem qm_X6_197 : Cond.methodLink RX6 197 yX6_skips_ ∈ AW := AW_of (qr_5 _ (List.mem_of_getElem? (l := tables_1_5) (i := 21) rfl)) rfl
theorem qn_yX6_skips_ : Cond.instanceMethod yX6_skips_ ∈ AW := AW_of (qr_5 _ (List.mem_of_getElem? (l := tables_1_5) (i := 23) rfl)) rfl
theorem qs_yX6_skips_ : Cond.selects RX6 yX6_skips_ yX6_skips_ ∈ AW := AW_of (List.mem_append_left _ (List.mem_of_getElem? (l := k2_sels lw_privs) (i := 69) rfl)) rfl
theorem qc_yX6_skips_ : Cond.code yX6_skips_ cX6_skips_ 8 (some .long) ∈ AW := AW_of (qr_5 _ (List.mem_of_getElem? (l := tables_1_5) (i := 24) rfl)) rfl
theorem qm_L_83 : Cond.methodLink RL 83 yX5_bestSkip ∈ AW := AW_of (qr_2 _ (List.mem_of_getElem? (l := tables_1_2) (i := 216) rfl)) rfl
theorem qn_yX5_bestSkip : Cond.instanceMethod yX5_bestSkip ∈ AW := AW_of (qr_2 _ (List.mem_of_getElem? (l := tables_1_2) (i := 217) rfl)) rfl
theorem qs_yX5_bestSkip : Cond.selects RX5 yX5_bestSkip yX5_bestSkip ∈ AW := AW_of (qr_2 _ (List.mem_of_getElem? (l := tables_1_2) (i := 218) rfl)) rfl
theorem qc_yX5_bestSkip : Cond.code yX5_bestSkip cX5_bestSkip 7 (some .int) ∈ AW := AW_of (qr_2 _ (List.mem_of_getElem? (l := tables_1_2) (i := 219) rfl)) rfl
theorem qm_L_86 : Cond.methodLink RL 86 yX6_bestSkip ∈ AW := AW_of (qr_5 _ (List.mem_of_getElem? (l := tables_1_5) (i := 25) rfl)) rfl
theorem qn_yX6_bestSkip : Cond.instanceMethod yX6_bestSkip ∈ AW := AW_of (qr_5 _ (List.mem_of_getElem? (l := tables_1_5) (i := 26) rfl)) rfl
theorem qs_yX6_bestSkip : Cond.selects RX6 yX6_bestSkip yX6_bestSkip ∈ AW := AW_of (qr_5 _ (List.mem_of_getElem? (l := tables_1_5) (i := 27) rfl)) rfl
theorem qc_yX6_bestSkip : Cond.code yX6_bestSkip cX6_bestSkip 3 (some .int) ∈ AW := AW_of (qr_5 _ (List.mem_of_getElem? (l := tables_1_5) (i := 28) rfl)) rfl
theorem qm_L_87 : Cond.methodLink RL 87 yX5_situation ∈ AW := AW_of (qr_2 _ (List.mem_of_getElem? (l := tables_1_2) (i := 220) rfl)) rfl
theorem qn_yX5_situation : Cond.instanceMethod yX5_situation ∈ AW := AW_of (qr_2 _ (List.mem_of_getElem? (l := tables_1_2) (i := 221) rfl)) rfl
theorem qs_yX5_situation : Cond.selects RX5 yX5_situation yX5_situation ∈ AW := AW_of (qr_2 _ (List.mem_of_getElem? (l := tables_1_2) (i := 222) rfl)) rfl
theorem qc_yX5_situation : Cond.code yX5_situation cX5_situation 5 (some .long) ∈ AW := AW_of (qr_2 _ (List.mem_of_getElem? (l := tables_1_2) (i := 223) rfl)) rfl
theorem ql_X5_163 : Cond.constantLong RX5 163 (1000000000000000) ∈ AW := AW_of (qr_3 _ (List.mem_of_getElem? (l := tables_1_3) (i := 32) rfl)) rfl
theorem qm_X5_155 : Cond.methodLink RX5 155 yX5_isNoSituation ∈ AW := AW_of (qr_2 _ (List.mem_of_getElem? (l := tables_1_2) (i := 224) rfl)) rfl
theorem qn_yX5_isNoSituation : Cond.instanceMethod yX5_isNoSituation ∈ AW := AW_of (qr_2 _ (List.mem_of_getElem? (l := tables_1_2) (i := 226) rfl)) rfl
theorem qs_yX5_isNoSituation : Cond.selects RX5 yX5_isNoSituation yX5_isNoSituation ∈ AW := AW_of (List.mem_append_left _ (List.mem_of_getElem? (l := k2_sels lw_privs) (i := 22) rfl)) rfl
theorem qc_yX5_isNoSituation : Cond.code yX5_isNoSituation cX5_isNoSituation 5 (some .boolean) ∈ AW := AW_of (qr_2 _ (List.mem_of_getElem? (l := tables_1_2) (i := 227) rfl)) rfl
theorem qm_X5_173 : Cond.methodLink RX5 173 yX5_isNoMemory ∈ AW := AW_of (qr_2 _ (List.mem_of_getElem? (l := tables_1_2) (i := 228) rfl)) rfl
theorem qt_yX5_isNoMemory : Cond.static yX5_isNoMemory ∈ AW := AW_of (qr_2 _ (List.mem_of_getElem? (l := tables_1_2) (i := 229) rfl)) rfl
theorem qc_yX5_isNoMemory : Cond.code yX5_isNoMemory cX5_isNoMemory 1 (some .boolean) ∈ AW := AW_of (qr_2 _ (List.mem_of_getElem? (l := tables_1_2) (i := 230) rfl)) rfl
theorem qm_X5_159 : Cond.methodLink RX5 159 yX4_solve ∈ AW := AW_of (qr_2 _ (List.mem_of_getElem? (l := tables_1_2) (i := 231) rfl)) rfl
theorem qn_yX4_solve : Cond.instanceMethod yX4_solve ∈ AW := AW_of (qr_2 _ (List.mem_of_getElem? (l := tables_1_2) (i := 232) rfl)) rfl
theorem qs_yX4_solve : Cond.selects RX4 yX4_solve yX4_solve ∈ AW := AW_of (qr_2 _ (List.mem_of_getElem? (l := tables_1_2) (i := 233) rfl)) rfl
theorem qc_yX4_solve : Cond.code yX4_solve cX4_solve 4 none ∈ AW := AW_of (qr_2 _ (List.mem_of_getElem? (l := tables_1_2) (i := 234) rfl)) rfl
theorem qf_X4_58 : Cond.fieldLink RX4 58 "StoppingPlanner$ValueProblem" "n" "I" ∈ AW := AW_of (qr_1 _ (List.mem_of_getElem? (l := tables_1_1) (i := 116) rfl)) rfl
theorem qm_X4_54 : Cond.methodLink RX4 54 yX4_readParameters ∈ AW := AW_of (qr_2 _ (List.mem_of_getElem? (l := tables_1_2) (i := 235) rfl)) rfl
theorem qn_yX4_readParameters : Cond.instanceMethod yX4_readParameters ∈ AW := AW_of (qr_2 _ (List.mem_of_getElem? (l := tables_1_2) (i := 237) rfl)) rfl
theorem qs_yX4_readParameters : Cond.selects RX4 yX4_readParameters yX4_readParameters ∈ AW := AW_of (List.mem_append_left _ (List.mem_of_getElem? (l := k2_sels lw_privs) (i := 23) rfl)) rfl
theorem qc_yX4_readParameters : Cond.code yX4_readParameters cX4_readParameters 3 none ∈ AW := AW_of (qr_2 _ (List.mem_of_getElem? (l := tables_1_2) (i := 238) rfl)) rfl
theorem ql_X4_80 : Cond.constantLong RX4 80 (1000000000000000) ∈ AW := AW_of (qr_2 _ (List.mem_of_getElem? (l := tables_1_2) (i := 239) rfl)) rfl
theorem qf_X4_76 : Cond.fieldLink RX4 76 "StoppingPlanner$ValueProblem" "cost" "J" ∈ AW := AW_of (qr_1 _ (List.mem_of_getElem? (l := tables_1_1) (i := 117) rfl)) rfl
theorem qf_X4_82 : Cond.fieldLink RX4 82 "StoppingPlanner$ValueProblem" "chanceOfAge1" "I" ∈ AW := AW_of (qr_1 _ (List.mem_of_getElem? (l := tables_1_1) (i := 118) rfl)) rfl
theorem qf_X4_85 : Cond.fieldLink RX4 85 "StoppingPlanner$ValueProblem" "chanceOfAge2" "I" ∈ AW := AW_of (qr_1 _ (List.mem_of_getElem? (l := tables_1_1) (i := 119) rfl)) rfl
theorem qm_X4_62 : Cond.methodLink RX4 62 yX4_solveAfters ∈ AW := AW_of (qr_3 _ (List.mem_of_getElem? (l := tables_1_3) (i := 0) rfl)) rfl
theorem qn_yX4_solveAfters : Cond.instanceMethod yX4_solveAfters ∈ AW := AW_of (qr_3 _ (List.mem_of_getElem? (l := tables_1_3) (i := 2) rfl)) rfl
theorem qs_yX4_solveAfters : Cond.selects RX4 yX4_solveAfters yX4_solveAfters ∈ AW := AW_of (List.mem_append_left _ (List.mem_of_getElem? (l := k2_sels lw_privs) (i := 24) rfl)) rfl
theorem qc_yX4_solveAfters : Cond.code yX4_solveAfters cX4_solveAfters 6 none ∈ AW := AW_of (qr_3 _ (List.mem_of_getElem? (l := tables_1_3) (i := 3) rfl)) rfl
theorem qm_X4_91 : Cond.methodLink RX4 91 Lib.MathLoose.max_long.x ∈ AW := AW_of (qr_3 _ (List.mem_of_getElem? (l := tables_1_3) (i := 11) rfl)) rfl
theorem qm_X4_88 : Cond.methodLink RX4 88 yX4_meanOfBest ∈ AW := AW_of (qr_3 _ (List.mem_of_getElem? (l := tables_1_3) (i := 4) rfl)) rfl
theorem qn_yX4_meanOfBest : Cond.instanceMethod yX4_meanOfBest ∈ AW := AW_of (qr_3 _ (List.mem_of_getElem? (l := tables_1_3) (i := 6) rfl)) rfl
theorem qs_yX4_meanOfBest : Cond.selects RX4 yX4_meanOfBest yX4_meanOfBest ∈ AW := AW_of (List.mem_append_left _ (List.mem_of_getElem? (l := k2_sels lw_privs) (i := 25) rfl)) rfl
theorem qc_yX4_meanOfBest : Cond.code yX4_meanOfBest cX4_meanOfBest 11 (some .long) ∈ AW := AW_of (qr_3 _ (List.mem_of_getElem? (l := tables_1_3) (i := 7) rfl)) rfl
theorem ql_X4_97 : Cond.constantLong RX4 97 (10) ∈ AW := AW_of (qr_3 _ (List.mem_of_getElem? (l := tables_1_3) (i := 12) rfl)) rfl
theorem qm_X4_32 : Cond.methodLink RX4 32 yX4_placeBefore ∈ AW := AW_of (qr_3 _ (List.mem_of_getElem? (l := tables_1_3) (i := 8) rfl)) rfl
theorem qt_yX4_placeBefore : Cond.static yX4_placeBefore ∈ AW := AW_of (qr_3 _ (List.mem_of_getElem? (l := tables_1_3) (i := 9) rfl)) rfl
theorem qc_yX4_placeBefore : Cond.code yX4_placeBefore cX4_placeBefore 4 (some .int) ∈ AW := AW_of (qr_3 _ (List.mem_of_getElem? (l := tables_1_3) (i := 10) rfl)) rfl
theorem qm_X4_36 : Cond.methodLink RX4 36 yX4_placeAfter ∈ AW := AW_of (qr_3 _ (List.mem_of_getElem? (l := tables_1_3) (i := 13) rfl)) rfl
theorem qt_yX4_placeAfter : Cond.static yX4_placeAfter ∈ AW := AW_of (qr_3 _ (List.mem_of_getElem? (l := tables_1_3) (i := 14) rfl)) rfl
theorem qc_yX4_placeAfter : Cond.code yX4_placeAfter cX4_placeAfter 3 (some .int) ∈ AW := AW_of (qr_3 _ (List.mem_of_getElem? (l := tables_1_3) (i := 15) rfl)) rfl
theorem qm_X4_66 : Cond.methodLink RX4 66 yX4_solveBefores ∈ AW := AW_of (qr_3 _ (List.mem_of_getElem? (l := tables_1_3) (i := 16) rfl)) rfl
theorem qn_yX4_solveBefores : Cond.instanceMethod yX4_solveBefores ∈ AW := AW_of (qr_3 _ (List.mem_of_getElem? (l := tables_1_3) (i := 18) rfl)) rfl
theorem qs_yX4_solveBefores : Cond.selects RX4 yX4_solveBefores yX4_solveBefores ∈ AW := AW_of (List.mem_append_left _ (List.mem_of_getElem? (l := k2_sels lw_privs) (i := 26) rfl)) rfl
theorem qc_yX4_solveBefores : Cond.code yX4_solveBefores cX4_solveBefores 7 none ∈ AW := AW_of (qr_3 _ (List.mem_of_getElem? (l := tables_1_3) (i := 19) rfl)) rfl
theorem qm_X4_44 : Cond.methodLink RX4 44 yX4_recallOfAge1 ∈ AW := AW_of (qr_3 _ (List.mem_of_getElem? (l := tables_1_3) (i := 20) rfl)) rfl
theorem qn_yX4_recallOfAge1 : Cond.instanceMethod yX4_recallOfAge1 ∈ AW := AW_of (qr_3 _ (List.mem_of_getElem? (l := tables_1_3) (i := 22) rfl)) rfl
theorem qs_yX4_recallOfAge1 : Cond.selects RX4 yX4_recallOfAge1 yX4_recallOfAge1 ∈ AW := AW_of (List.mem_append_left _ (List.mem_of_getElem? (l := k2_sels lw_privs) (i := 27) rfl)) rfl
theorem qc_yX4_recallOfAge1 : Cond.code yX4_recallOfAge1 cX4_recallOfAge1 8 (some .long) ∈ AW := AW_of (qr_3 _ (List.mem_of_getElem? (l := tables_1_3) (i := 23) rfl)) rfl
theorem qm_X4_47 : Cond.methodLink RX4 47 yX4_recallOfAge2 ∈ AW := AW_of (qr_3 _ (List.mem_of_getElem? (l := tables_1_3) (i := 24) rfl)) rfl
theorem qn_yX4_recallOfAge2 : Cond.instanceMethod yX4_recallOfAge2 ∈ AW := AW_of (qr_3 _ (List.mem_of_getElem? (l := tables_1_3) (i := 26) rfl)) rfl
theorem qs_yX4_recallOfAge2 : Cond.selects RX4 yX4_recallOfAge2 yX4_recallOfAge2 ∈ AW := AW_of (List.mem_append_left _ (List.mem_of_getElem? (l := k2_sels lw_privs) (i := 28) rfl)) rfl
theorem qc_yX4_recallOfAge2 : Cond.code yX4_recallOfAge2 cX4_recallOfAge2 9 (some .long) ∈ AW := AW_of (qr_3 _ (List.mem_of_getElem? (l := tables_1_3) (i := 27) rfl)) rfl
theorem qm_X5_160 : Cond.methodLink RX5 160 yX4_valueBefore ∈ AW := AW_of (qr_3 _ (List.mem_of_getElem? (l := tables_1_3) (i := 28) rfl)) rfl
theorem qn_yX4_valueBefore : Cond.instanceMethod yX4_valueBefore ∈ AW := AW_of (qr_3 _ (List.mem_of_getElem? (l := tables_1_3) (i := 29) rfl)) rfl
theorem qs_yX4_valueBefore : Cond.selects RX4 yX4_valueBefore yX4_valueBefore ∈ AW := AW_of (qr_3 _ (List.mem_of_getElem? (l := tables_1_3) (i := 30) rfl)) rfl
theorem qc_yX4_valueBefore : Cond.code yX4_valueBefore cX4_valueBefore 5 (some .long) ∈ AW := AW_of (qr_3 _ (List.mem_of_getElem? (l := tables_1_3) (i := 31) rfl)) rfl
theorem qm_L_91 : Cond.methodLink RL 91 yX6_situation ∈ AW := AW_of (qr_5 _ (List.mem_of_getElem? (l := tables_1_5) (i := 29) rfl)) rfl
theorem qn_yX6_situation : Cond.instanceMethod yX6_situation ∈ AW := AW_of (qr_5 _ (List.mem_of_getElem? (l := tables_1_5) (i := 30) rfl)) rfl
theorem qs_yX6_situation : Cond.selects RX6 yX6_situation yX6_situation ∈ AW := AW_of (qr_5 _ (List.mem_of_getElem? (l := tables_1_5) (i := 31) rfl)) rfl
theorem qc_yX6_situation : Cond.code yX6_situation cX6_situation 5 (some .long) ∈ AW := AW_of (qr_5 _ (List.mem_of_getElem? (l := tables_1_5) (i := 32) rfl)) rfl
theorem qm_X6_199 : Cond.methodLink RX6 199 yX6_isSituation ∈ AW := AW_of (qr_5 _ (List.mem_of_getElem? (l := tables_1_5) (i := 33) rfl)) rfl
theorem qn_yX6_isSituation : Cond.instanceMethod yX6_isSituation ∈ AW := AW_of (qr_5 _ (List.mem_of_getElem? (l := tables_1_5) (i := 35) rfl)) rfl
theorem qs_yX6_isSituation : Cond.selects RX6 yX6_isSituation yX6_isSituation ∈ AW := AW_of (List.mem_append_left _ (List.mem_of_getElem? (l := k2_sels lw_privs) (i := 70) rfl)) rfl
theorem qc_yX6_isSituation : Cond.code yX6_isSituation cX6_isSituation 5 (some .boolean) ∈ AW := AW_of (qr_5 _ (List.mem_of_getElem? (l := tables_1_5) (i := 36) rfl)) rfl
theorem qm_L_92 : Cond.methodLink RL 92 yX5_recalls ∈ AW := AW_of (qr_3 _ (List.mem_of_getElem? (l := tables_1_3) (i := 33) rfl)) rfl
theorem qn_yX5_recalls : Cond.instanceMethod yX5_recalls ∈ AW := AW_of (qr_3 _ (List.mem_of_getElem? (l := tables_1_3) (i := 34) rfl)) rfl
theorem qs_yX5_recalls : Cond.selects RX5 yX5_recalls yX5_recalls ∈ AW := AW_of (qr_3 _ (List.mem_of_getElem? (l := tables_1_3) (i := 35) rfl)) rfl
theorem qc_yX5_recalls : Cond.code yX5_recalls cX5_recalls 5 (some .int) ∈ AW := AW_of (qr_3 _ (List.mem_of_getElem? (l := tables_1_3) (i := 36) rfl)) rfl
theorem qm_X5_165 : Cond.methodLink RX5 165 yX4_bestRecall ∈ AW := AW_of (qr_3 _ (List.mem_of_getElem? (l := tables_1_3) (i := 37) rfl)) rfl
theorem qn_yX4_bestRecall : Cond.instanceMethod yX4_bestRecall ∈ AW := AW_of (qr_3 _ (List.mem_of_getElem? (l := tables_1_3) (i := 38) rfl)) rfl
theorem qs_yX4_bestRecall : Cond.selects RX4 yX4_bestRecall yX4_bestRecall ∈ AW := AW_of (qr_3 _ (List.mem_of_getElem? (l := tables_1_3) (i := 39) rfl)) rfl
theorem qc_yX4_bestRecall : Cond.code yX4_bestRecall cX4_bestRecall 8 (some .int) ∈ AW := AW_of (qr_3 _ (List.mem_of_getElem? (l := tables_1_3) (i := 40) rfl)) rfl
theorem qm_X4_40 : Cond.methodLink RX4 40 yX4_valueAfterRecall ∈ AW := AW_of (qr_3 _ (List.mem_of_getElem? (l := tables_1_3) (i := 41) rfl)) rfl
theorem qn_yX4_valueAfterRecall : Cond.instanceMethod yX4_valueAfterRecall ∈ AW := AW_of (qr_3 _ (List.mem_of_getElem? (l := tables_1_3) (i := 42) rfl)) rfl
theorem qs_yX4_valueAfterRecall : Cond.selects RX4 yX4_valueAfterRecall yX4_valueAfterRecall ∈ AW := AW_of (qr_3 _ (List.mem_of_getElem? (l := tables_1_3) (i := 43) rfl)) rfl
theorem qc_yX4_valueAfterRecall : Cond.code yX4_valueAfterRecall cX4_valueAfterRecall 4 (some .long) ∈ AW := AW_of (qr_3 _ (List.mem_of_getElem? (l := tables_1_3) (i := 44) rfl)) rfl
theorem qm_L_96 : Cond.methodLink RL 96 yX6_recalls ∈ AW := AW_of (qr_5 _ (List.mem_of_getElem? (l := tables_1_5) (i := 37) rfl)) rfl
theorem qn_yX6_recalls : Cond.instanceMethod yX6_recalls ∈ AW := AW_of (qr_5 _ (List.mem_of_getElem? (l := tables_1_5) (i := 38) rfl)) rfl
theorem qs_yX6_recalls : Cond.selects RX6 yX6_recalls yX6_recalls ∈ AW := AW_of (qr_5 _ (List.mem_of_getElem? (l := tables_1_5) (i := 39) rfl)) rfl
theorem qc_yX6_recalls : Cond.code yX6_recalls cX6_recalls 5 (some .int) ∈ AW := AW_of (qr_5 _ (List.mem_of_getElem? (l := tables_1_5) (i := 40) rfl)) rfl
theorem qm_X6_203 : Cond.methodLink RX6 203 yX6_recallOf ∈ AW := AW_of (qr_5 _ (List.mem_of_getElem? (l := tables_1_5) (i := 41) rfl)) rfl
theorem qn_yX6_recallOf : Cond.instanceMethod yX6_recallOf ∈ AW := AW_of (qr_5 _ (List.mem_of_getElem? (l := tables_1_5) (i := 43) rfl)) rfl
theorem qs_yX6_recallOf : Cond.selects RX6 yX6_recallOf yX6_recallOf ∈ AW := AW_of (List.mem_append_left _ (List.mem_of_getElem? (l := k2_sels lw_privs) (i := 71) rfl)) rfl
theorem qc_yX6_recallOf : Cond.code yX6_recallOf cX6_recallOf 7 (some .int) ∈ AW := AW_of (qr_5 _ (List.mem_of_getElem? (l := tables_1_5) (i := 44) rfl)) rfl
theorem qm_L_97 : Cond.methodLink RL 97 yX5_observes ∈ AW := AW_of (qr_3 _ (List.mem_of_getElem? (l := tables_1_3) (i := 45) rfl)) rfl
theorem qn_yX5_observes : Cond.instanceMethod yX5_observes ∈ AW := AW_of (qr_3 _ (List.mem_of_getElem? (l := tables_1_3) (i := 46) rfl)) rfl
theorem qs_yX5_observes : Cond.selects RX5 yX5_observes yX5_observes ∈ AW := AW_of (qr_3 _ (List.mem_of_getElem? (l := tables_1_3) (i := 47) rfl)) rfl
theorem qc_yX5_observes : Cond.code yX5_observes cX5_observes 5 (some .int) ∈ AW := AW_of (qr_3 _ (List.mem_of_getElem? (l := tables_1_3) (i := 48) rfl)) rfl
theorem qm_X5_169 : Cond.methodLink RX5 169 yX4_valueAfterRecall ∈ AW := AW_of (qr_3 _ (List.mem_of_getElem? (l := tables_1_3) (i := 49) rfl)) rfl
theorem qm_L_100 : Cond.methodLink RL 100 yX6_observes ∈ AW := AW_of (qr_5 _ (List.mem_of_getElem? (l := tables_1_5) (i := 45) rfl)) rfl
theorem qn_yX6_observes : Cond.instanceMethod yX6_observes ∈ AW := AW_of (qr_5 _ (List.mem_of_getElem? (l := tables_1_5) (i := 46) rfl)) rfl
theorem qs_yX6_observes : Cond.selects RX6 yX6_observes yX6_observes ∈ AW := AW_of (qr_5 _ (List.mem_of_getElem? (l := tables_1_5) (i := 47) rfl)) rfl
theorem qc_yX6_observes : Cond.code yX6_observes cX6_observes 5 (some .int) ∈ AW := AW_of (qr_5 _ (List.mem_of_getElem? (l := tables_1_5) (i := 48) rfl)) rfl
theorem qm_L_101 : Cond.methodLink RL 101 yX5_choosesLevel ∈ AW := AW_of (qr_3 _ (List.mem_of_getElem? (l := tables_1_3) (i := 50) rfl)) rfl
theorem qn_yX5_choosesLevel : Cond.instanceMethod yX5_choosesLevel ∈ AW := AW_of (qr_3 _ (List.mem_of_getElem? (l := tables_1_3) (i := 51) rfl)) rfl
theorem qs_yX5_choosesLevel : Cond.selects RX5 yX5_choosesLevel yX5_choosesLevel ∈ AW := AW_of (qr_3 _ (List.mem_of_getElem? (l := tables_1_3) (i := 52) rfl)) rfl
theorem qc_yX5_choosesLevel : Cond.code yX5_choosesLevel cX5_choosesLevel 5 (some .int) ∈ AW := AW_of (qr_3 _ (List.mem_of_getElem? (l := tables_1_3) (i := 53) rfl)) rfl
theorem qm_X5_176 : Cond.methodLink RX5 176 yX4_takes ∈ AW := AW_of (qr_3 _ (List.mem_of_getElem? (l := tables_1_3) (i := 54) rfl)) rfl
theorem qn_yX4_takes : Cond.instanceMethod yX4_takes ∈ AW := AW_of (qr_3 _ (List.mem_of_getElem? (l := tables_1_3) (i := 55) rfl)) rfl
theorem qs_yX4_takes : Cond.selects RX4 yX4_takes yX4_takes ∈ AW := AW_of (qr_3 _ (List.mem_of_getElem? (l := tables_1_3) (i := 56) rfl)) rfl
theorem qc_yX4_takes : Cond.code yX4_takes cX4_takes 7 (some .boolean) ∈ AW := AW_of (qr_3 _ (List.mem_of_getElem? (l := tables_1_3) (i := 57) rfl)) rfl
theorem qm_L_104 : Cond.methodLink RL 104 yX6_choosesLevel ∈ AW := AW_of (qr_5 _ (List.mem_of_getElem? (l := tables_1_5) (i := 49) rfl)) rfl
theorem qn_yX6_choosesLevel : Cond.instanceMethod yX6_choosesLevel ∈ AW := AW_of (qr_5 _ (List.mem_of_getElem? (l := tables_1_5) (i := 50) rfl)) rfl
theorem qs_yX6_choosesLevel : Cond.selects RX6 yX6_choosesLevel yX6_choosesLevel ∈ AW := AW_of (qr_5 _ (List.mem_of_getElem? (l := tables_1_5) (i := 51) rfl)) rfl
theorem qc_yX6_choosesLevel : Cond.code yX6_choosesLevel cX6_choosesLevel 5 (some .int) ∈ AW := AW_of (qr_5 _ (List.mem_of_getElem? (l := tables_1_5) (i := 52) rfl)) rfl
theorem qm_X6_206 : Cond.methodLink RX6 206 yX6_isTaken ∈ AW := AW_of (qr_5 _ (List.mem_of_getElem? (l := tables_1_5) (i := 53) rfl)) rfl
theorem qn_yX6_isTaken : Cond.instanceMethod yX6_isTaken ∈ AW := AW_of (qr_5 _ (List.mem_of_getElem? (l := tables_1_5) (i := 55) rfl)) rfl
theorem qs_yX6_isTaken : Cond.selects RX6 yX6_isTaken yX6_isTaken ∈ AW := AW_of (List.mem_append_left _ (List.mem_of_getElem? (l := k2_sels lw_privs) (i := 72) rfl)) rfl
theorem qc_yX6_isTaken : Cond.code yX6_isTaken cX6_isTaken 5 (some .boolean) ∈ AW := AW_of (qr_5 _ (List.mem_of_getElem? (l := tables_1_5) (i := 56) rfl)) rfl
theorem qm_L_105 : Cond.methodLink RL 105 yX5_valueThreshold ∈ AW := AW_of (qr_3 _ (List.mem_of_getElem? (l := tables_1_3) (i := 58) rfl)) rfl
theorem qn_yX5_valueThreshold : Cond.instanceMethod yX5_valueThreshold ∈ AW := AW_of (qr_3 _ (List.mem_of_getElem? (l := tables_1_3) (i := 59) rfl)) rfl
theorem qs_yX5_valueThreshold : Cond.selects RX5 yX5_valueThreshold yX5_valueThreshold ∈ AW := AW_of (qr_3 _ (List.mem_of_getElem? (l := tables_1_3) (i := 60) rfl)) rfl
theorem qc_yX5_valueThreshold : Cond.code yX5_valueThreshold cX5_valueThreshold 7 (some .int) ∈ AW := AW_of (qr_3 _ (List.mem_of_getElem? (l := tables_1_3) (i := 61) rfl)) rfl
theorem qm_L_108 : Cond.methodLink RL 108 yX6_valueThreshold ∈ AW := AW_of (qr_5 _ (List.mem_of_getElem? (l := tables_1_5) (i := 57) rfl)) rfl
theorem qn_yX6_valueThreshold : Cond.instanceMethod yX6_valueThreshold ∈ AW := AW_of (qr_5 _ (List.mem_of_getElem? (l := tables_1_5) (i := 58) rfl)) rfl
theorem qs_yX6_valueThreshold : Cond.selects RX6 yX6_valueThreshold yX6_valueThreshold ∈ AW := AW_of (qr_5 _ (List.mem_of_getElem? (l := tables_1_5) (i := 59) rfl)) rfl
theorem qc_yX6_valueThreshold : Cond.code yX6_valueThreshold cX6_valueThreshold 4 (some .int) ∈ AW := AW_of (qr_5 _ (List.mem_of_getElem? (l := tables_1_5) (i := 60) rfl)) rfl
theorem qm_X6_209 : Cond.methodLink RX6 209 yX6_leastTaken ∈ AW := AW_of (qr_5 _ (List.mem_of_getElem? (l := tables_1_5) (i := 61) rfl)) rfl
theorem qn_yX6_leastTaken : Cond.instanceMethod yX6_leastTaken ∈ AW := AW_of (qr_5 _ (List.mem_of_getElem? (l := tables_1_5) (i := 63) rfl)) rfl
theorem qs_yX6_leastTaken : Cond.selects RX6 yX6_leastTaken yX6_leastTaken ∈ AW := AW_of (List.mem_append_left _ (List.mem_of_getElem? (l := k2_sels lw_privs) (i := 73) rfl)) rfl
theorem qc_yX6_leastTaken : Cond.code yX6_leastTaken cX6_leastTaken 7 (some .int) ∈ AW := AW_of (qr_5 _ (List.mem_of_getElem? (l := tables_1_5) (i := 64) rfl)) rfl
theorem qm_L_109 : Cond.methodLink RL 109 yX5_fixed ∈ AW := AW_of (qr_3 _ (List.mem_of_getElem? (l := tables_1_3) (i := 62) rfl)) rfl
theorem qn_yX5_fixed : Cond.instanceMethod yX5_fixed ∈ AW := AW_of (qr_3 _ (List.mem_of_getElem? (l := tables_1_3) (i := 63) rfl)) rfl
theorem qs_yX5_fixed : Cond.selects RX5 yX5_fixed yX5_fixed ∈ AW := AW_of (qr_3 _ (List.mem_of_getElem? (l := tables_1_3) (i := 64) rfl)) rfl
theorem qc_yX5_fixed : Cond.code yX5_fixed cX5_fixed 2 (some .long) ∈ AW := AW_of (qr_3 _ (List.mem_of_getElem? (l := tables_1_3) (i := 65) rfl)) rfl
theorem qm_X5_178 : Cond.methodLink RX5 178 yX4_valueOfFixed ∈ AW := AW_of (qr_3 _ (List.mem_of_getElem? (l := tables_1_3) (i := 66) rfl)) rfl
theorem qn_yX4_valueOfFixed : Cond.instanceMethod yX4_valueOfFixed ∈ AW := AW_of (qr_3 _ (List.mem_of_getElem? (l := tables_1_3) (i := 67) rfl)) rfl
theorem qs_yX4_valueOfFixed : Cond.selects RX4 yX4_valueOfFixed yX4_valueOfFixed ∈ AW := AW_of (qr_3 _ (List.mem_of_getElem? (l := tables_1_3) (i := 68) rfl)) rfl
theorem qc_yX4_valueOfFixed : Cond.code yX4_valueOfFixed cX4_valueOfFixed 5 (some .long) ∈ AW := AW_of (qr_3 _ (List.mem_of_getElem? (l := tables_1_3) (i := 69) rfl)) rfl
theorem qm_X4_69 : Cond.methodLink RX4 69 yX4_place ∈ AW := AW_of (qr_3 _ (List.mem_of_getElem? (l := tables_1_3) (i := 70) rfl)) rfl
theorem qt_yX4_place : Cond.static yX4_place ∈ AW := AW_of (qr_3 _ (List.mem_of_getElem? (l := tables_1_3) (i := 71) rfl)) rfl
theorem qc_yX4_place : Cond.code yX4_place cX4_place 2 (some .int) ∈ AW := AW_of (qr_3 _ (List.mem_of_getElem? (l := tables_1_3) (i := 72) rfl)) rfl
theorem qm_X4_73 : Cond.methodLink RX4 73 yX4_meanOfFixed ∈ AW := AW_of (qr_3 _ (List.mem_of_getElem? (l := tables_1_3) (i := 73) rfl)) rfl
theorem qn_yX4_meanOfFixed : Cond.instanceMethod yX4_meanOfFixed ∈ AW := AW_of (qr_3 _ (List.mem_of_getElem? (l := tables_1_3) (i := 75) rfl)) rfl
theorem qs_yX4_meanOfFixed : Cond.selects RX4 yX4_meanOfFixed yX4_meanOfFixed ∈ AW := AW_of (List.mem_append_left _ (List.mem_of_getElem? (l := k2_sels lw_privs) (i := 29) rfl)) rfl
theorem qc_yX4_meanOfFixed : Cond.code yX4_meanOfFixed cX4_meanOfFixed 12 (some .long) ∈ AW := AW_of (qr_3 _ (List.mem_of_getElem? (l := tables_1_3) (i := 76) rfl)) rfl
theorem qm_L_112 : Cond.methodLink RL 112 yX6_fixed ∈ AW := AW_of (qr_5 _ (List.mem_of_getElem? (l := tables_1_5) (i := 65) rfl)) rfl
theorem qn_yX6_fixed : Cond.instanceMethod yX6_fixed ∈ AW := AW_of (qr_5 _ (List.mem_of_getElem? (l := tables_1_5) (i := 66) rfl)) rfl
theorem qs_yX6_fixed : Cond.selects RX6 yX6_fixed yX6_fixed ∈ AW := AW_of (qr_5 _ (List.mem_of_getElem? (l := tables_1_5) (i := 67) rfl)) rfl
theorem qc_yX6_fixed : Cond.code yX6_fixed cX6_fixed 2 (some .long) ∈ AW := AW_of (qr_5 _ (List.mem_of_getElem? (l := tables_1_5) (i := 68) rfl)) rfl
theorem qm_X6_213 : Cond.methodLink RX6 213 yX6_fixedAt ∈ AW := AW_of (qr_5 _ (List.mem_of_getElem? (l := tables_1_5) (i := 69) rfl)) rfl
theorem qn_yX6_fixedAt : Cond.instanceMethod yX6_fixedAt ∈ AW := AW_of (qr_5 _ (List.mem_of_getElem? (l := tables_1_5) (i := 71) rfl)) rfl
theorem qs_yX6_fixedAt : Cond.selects RX6 yX6_fixedAt yX6_fixedAt ∈ AW := AW_of (List.mem_append_left _ (List.mem_of_getElem? (l := k2_sels lw_privs) (i := 74) rfl)) rfl
theorem qc_yX6_fixedAt : Cond.code yX6_fixedAt cX6_fixedAt 9 (some .long) ∈ AW := AW_of (qr_5 _ (List.mem_of_getElem? (l := tables_1_5) (i := 72) rfl)) rfl
theorem qm_L_113 : Cond.methodLink RL 113 yX5_bestFixed ∈ AW := AW_of (qr_3 _ (List.mem_of_getElem? (l := tables_1_3) (i := 77) rfl)) rfl
theorem qn_yX5_bestFixed : Cond.instanceMethod yX5_bestFixed ∈ AW := AW_of (qr_3 _ (List.mem_of_getElem? (l := tables_1_3) (i := 78) rfl)) rfl
theorem qs_yX5_bestFixed : Cond.selects RX5 yX5_bestFixed yX5_bestFixed ∈ AW := AW_of (qr_3 _ (List.mem_of_getElem? (l := tables_1_3) (i := 79) rfl)) rfl
theorem qc_yX5_bestFixed : Cond.code yX5_bestFixed cX5_bestFixed 7 (some .int) ∈ AW := AW_of (qr_3 _ (List.mem_of_getElem? (l := tables_1_3) (i := 80) rfl)) rfl
theorem qm_X5_181 : Cond.methodLink RX5 181 yX5_isValueOfLevel ∈ AW := AW_of (qr_3 _ (List.mem_of_getElem? (l := tables_1_3) (i := 81) rfl)) rfl
theorem qn_yX5_isValueOfLevel : Cond.instanceMethod yX5_isValueOfLevel ∈ AW := AW_of (qr_3 _ (List.mem_of_getElem? (l := tables_1_3) (i := 83) rfl)) rfl
theorem qs_yX5_isValueOfLevel : Cond.selects RX5 yX5_isValueOfLevel yX5_isValueOfLevel ∈ AW := AW_of (List.mem_append_left _ (List.mem_of_getElem? (l := k2_sels lw_privs) (i := 30) rfl)) rfl
theorem qc_yX5_isValueOfLevel : Cond.code yX5_isValueOfLevel cX5_isValueOfLevel 3 (some .boolean) ∈ AW := AW_of (qr_3 _ (List.mem_of_getElem? (l := tables_1_3) (i := 84) rfl)) rfl
theorem qm_L_116 : Cond.methodLink RL 116 yX6_bestFixed ∈ AW := AW_of (qr_5 _ (List.mem_of_getElem? (l := tables_1_5) (i := 73) rfl)) rfl
theorem qn_yX6_bestFixed : Cond.instanceMethod yX6_bestFixed ∈ AW := AW_of (qr_5 _ (List.mem_of_getElem? (l := tables_1_5) (i := 74) rfl)) rfl
theorem qs_yX6_bestFixed : Cond.selects RX6 yX6_bestFixed yX6_bestFixed ∈ AW := AW_of (qr_5 _ (List.mem_of_getElem? (l := tables_1_5) (i := 75) rfl)) rfl
theorem qc_yX6_bestFixed : Cond.code yX6_bestFixed cX6_bestFixed 7 (some .int) ∈ AW := AW_of (qr_5 _ (List.mem_of_getElem? (l := tables_1_5) (i := 76) rfl)) rfl
theorem qm_L_117 : Cond.methodLink RL 117 yX5_recallGain ∈ AW := AW_of (qr_3 _ (List.mem_of_getElem? (l := tables_1_3) (i := 85) rfl)) rfl
theorem qn_yX5_recallGain : Cond.instanceMethod yX5_recallGain ∈ AW := AW_of (qr_3 _ (List.mem_of_getElem? (l := tables_1_3) (i := 86) rfl)) rfl
theorem qs_yX5_recallGain : Cond.selects RX5 yX5_recallGain yX5_recallGain ∈ AW := AW_of (qr_3 _ (List.mem_of_getElem? (l := tables_1_3) (i := 87) rfl)) rfl
theorem qc_yX5_recallGain : Cond.code yX5_recallGain cX5_recallGain 5 (some .long) ∈ AW := AW_of (qr_3 _ (List.mem_of_getElem? (l := tables_1_3) (i := 88) rfl)) rfl
theorem qm_L_121 : Cond.methodLink RL 121 yX6_recallGain ∈ AW := AW_of (qr_5 _ (List.mem_of_getElem? (l := tables_1_5) (i := 77) rfl)) rfl
theorem qn_yX6_recallGain : Cond.instanceMethod yX6_recallGain ∈ AW := AW_of (qr_5 _ (List.mem_of_getElem? (l := tables_1_5) (i := 78) rfl)) rfl
theorem qs_yX6_recallGain : Cond.selects RX6 yX6_recallGain yX6_recallGain ∈ AW := AW_of (qr_5 _ (List.mem_of_getElem? (l := tables_1_5) (i := 79) rfl)) rfl
theorem qc_yX6_recallGain : Cond.code yX6_recallGain cX6_recallGain 1 (some .long) ∈ AW := AW_of (qr_5 _ (List.mem_of_getElem? (l := tables_1_5) (i := 80) rfl)) rfl
theorem qm_X6_216 : Cond.methodLink RX6 216 yX6_gain ∈ AW := AW_of (qr_5 _ (List.mem_of_getElem? (l := tables_1_5) (i := 81) rfl)) rfl
theorem qn_yX6_gain : Cond.instanceMethod yX6_gain ∈ AW := AW_of (qr_5 _ (List.mem_of_getElem? (l := tables_1_5) (i := 83) rfl)) rfl
theorem qs_yX6_gain : Cond.selects RX6 yX6_gain yX6_gain ∈ AW := AW_of (List.mem_append_left _ (List.mem_of_getElem? (l := k2_sels lw_privs) (i := 75) rfl)) rfl
theorem qc_yX6_gain : Cond.code yX6_gain cX6_gain 7 (some .long) ∈ AW := AW_of (qr_5 _ (List.mem_of_getElem? (l := tables_1_5) (i := 84) rfl)) rfl
theorem qm_L_122 : Cond.methodLink RL 122 yX5_price ∈ AW := AW_of (qr_3 _ (List.mem_of_getElem? (l := tables_1_3) (i := 89) rfl)) rfl
theorem qn_yX5_price : Cond.instanceMethod yX5_price ∈ AW := AW_of (qr_3 _ (List.mem_of_getElem? (l := tables_1_3) (i := 90) rfl)) rfl
theorem qs_yX5_price : Cond.selects RX5 yX5_price yX5_price ∈ AW := AW_of (qr_3 _ (List.mem_of_getElem? (l := tables_1_3) (i := 91) rfl)) rfl
theorem qc_yX5_price : Cond.code yX5_price cX5_price 2 (some .long) ∈ AW := AW_of (qr_3 _ (List.mem_of_getElem? (l := tables_1_3) (i := 92) rfl)) rfl
theorem qm_X5_184 : Cond.methodLink RX5 184 yX5_priceOfValues ∈ AW := AW_of (qr_3 _ (List.mem_of_getElem? (l := tables_1_3) (i := 93) rfl)) rfl
theorem qn_yX5_priceOfValues : Cond.instanceMethod yX5_priceOfValues ∈ AW := AW_of (qr_3 _ (List.mem_of_getElem? (l := tables_1_3) (i := 95) rfl)) rfl
theorem qs_yX5_priceOfValues : Cond.selects RX5 yX5_priceOfValues yX5_priceOfValues ∈ AW := AW_of (List.mem_append_left _ (List.mem_of_getElem? (l := k2_sels lw_privs) (i := 31) rfl)) rfl
theorem qc_yX5_priceOfValues : Cond.code yX5_priceOfValues cX5_priceOfValues 3 (some .long) ∈ AW := AW_of (qr_3 _ (List.mem_of_getElem? (l := tables_1_3) (i := 96) rfl)) rfl
theorem qm_X5_188 : Cond.methodLink RX5 188 yX5_priceOfRanks ∈ AW := AW_of (qr_3 _ (List.mem_of_getElem? (l := tables_1_3) (i := 97) rfl)) rfl
theorem qn_yX5_priceOfRanks : Cond.instanceMethod yX5_priceOfRanks ∈ AW := AW_of (qr_3 _ (List.mem_of_getElem? (l := tables_1_3) (i := 99) rfl)) rfl
theorem qs_yX5_priceOfRanks : Cond.selects RX5 yX5_priceOfRanks yX5_priceOfRanks ∈ AW := AW_of (List.mem_append_left _ (List.mem_of_getElem? (l := k2_sels lw_privs) (i := 32) rfl)) rfl
theorem qc_yX5_priceOfRanks : Cond.code yX5_priceOfRanks cX5_priceOfRanks 3 (some .long) ∈ AW := AW_of (qr_3 _ (List.mem_of_getElem? (l := tables_1_3) (i := 100) rfl)) rfl
theorem qm_L_126 : Cond.methodLink RL 126 yX6_price ∈ AW := AW_of (qr_5 _ (List.mem_of_getElem? (l := tables_1_5) (i := 85) rfl)) rfl
theorem qn_yX6_price : Cond.instanceMethod yX6_price ∈ AW := AW_of (qr_5 _ (List.mem_of_getElem? (l := tables_1_5) (i := 86) rfl)) rfl
theorem qs_yX6_price : Cond.selects RX6 yX6_price yX6_price ∈ AW := AW_of (qr_5 _ (List.mem_of_getElem? (l := tables_1_5) (i := 87) rfl)) rfl
theorem qc_yX6_price : Cond.code yX6_price cX6_price 4 (some .long) ∈ AW := AW_of (qr_5 _ (List.mem_of_getElem? (l := tables_1_5) (i := 88) rfl)) rfl
theorem qm_L_127 : Cond.methodLink RL 127 yX5_denominator ∈ AW := AW_of (qr_3 _ (List.mem_of_getElem? (l := tables_1_3) (i := 101) rfl)) rfl
theorem qn_yX5_denominator : Cond.instanceMethod yX5_denominator ∈ AW := AW_of (qr_3 _ (List.mem_of_getElem? (l := tables_1_3) (i := 102) rfl)) rfl
theorem qs_yX5_denominator : Cond.selects RX5 yX5_denominator yX5_denominator ∈ AW := AW_of (qr_3 _ (List.mem_of_getElem? (l := tables_1_3) (i := 103) rfl)) rfl
theorem qc_yX5_denominator : Cond.code yX5_denominator cX5_denominator 1 (some .long) ∈ AW := AW_of (qr_3 _ (List.mem_of_getElem? (l := tables_1_3) (i := 104) rfl)) rfl
theorem qm_L_130 : Cond.methodLink RL 130 yX6_denominator ∈ AW := AW_of (qr_4 _ (List.mem_of_getElem? (l := tables_1_4) (i := 152) rfl)) rfl
theorem qn_yX6_denominator : Cond.instanceMethod yX6_denominator ∈ AW := AW_of (qr_4 _ (List.mem_of_getElem? (l := tables_1_4) (i := 153) rfl)) rfl
theorem qs_yX6_denominator : Cond.selects RX6 yX6_denominator yX6_denominator ∈ AW := AW_of (qr_4 _ (List.mem_of_getElem? (l := tables_1_4) (i := 154) rfl)) rfl
theorem qc_yX6_denominator : Cond.code yX6_denominator cX6_denominator 1 (some .long) ∈ AW := AW_of (qr_4 _ (List.mem_of_getElem? (l := tables_1_4) (i := 155) rfl)) rfl
theorem qm_L_131 : Cond.methodLink RL 131 yX5_simulateRanks ∈ AW := AW_of (qr_3 _ (List.mem_of_getElem? (l := tables_1_3) (i := 105) rfl)) rfl
theorem qn_yX5_simulateRanks : Cond.instanceMethod yX5_simulateRanks ∈ AW := AW_of (qr_3 _ (List.mem_of_getElem? (l := tables_1_3) (i := 106) rfl)) rfl
theorem qs_yX5_simulateRanks : Cond.selects RX5 yX5_simulateRanks yX5_simulateRanks ∈ AW := AW_of (qr_3 _ (List.mem_of_getElem? (l := tables_1_3) (i := 107) rfl)) rfl
theorem qc_yX5_simulateRanks : Cond.code yX5_simulateRanks cX5_simulateRanks 3 (some .int) ∈ AW := AW_of (qr_3 _ (List.mem_of_getElem? (l := tables_1_3) (i := 108) rfl)) rfl
theorem qm_X5_191 : Cond.methodLink RX5 191 yX2_runRanks ∈ AW := AW_of (qr_3 _ (List.mem_of_getElem? (l := tables_1_3) (i := 109) rfl)) rfl
theorem qn_yX2_runRanks : Cond.instanceMethod yX2_runRanks ∈ AW := AW_of (qr_3 _ (List.mem_of_getElem? (l := tables_1_3) (i := 110) rfl)) rfl
theorem qs_yX2_runRanks : Cond.selects RX2 yX2_runRanks yX2_runRanks ∈ AW := AW_of (qr_3 _ (List.mem_of_getElem? (l := tables_1_3) (i := 111) rfl)) rfl
theorem qc_yX2_runRanks : Cond.code yX2_runRanks cX2_runRanks 7 none ∈ AW := AW_of (qr_3 _ (List.mem_of_getElem? (l := tables_1_3) (i := 112) rfl)) rfl
theorem qm_X2_21 : Cond.methodLink RX2 21 yX2_begin ∈ AW := AW_of (qr_3 _ (List.mem_of_getElem? (l := tables_1_3) (i := 113) rfl)) rfl
theorem qn_yX2_begin : Cond.instanceMethod yX2_begin ∈ AW := AW_of (qr_3 _ (List.mem_of_getElem? (l := tables_1_3) (i := 115) rfl)) rfl
theorem qs_yX2_begin : Cond.selects RX2 yX2_begin yX2_begin ∈ AW := AW_of (List.mem_append_left _ (List.mem_of_getElem? (l := k2_sels lw_privs) (i := 33) rfl)) rfl
theorem qc_yX2_begin : Cond.code yX2_begin cX2_begin 3 none ∈ AW := AW_of (qr_3 _ (List.mem_of_getElem? (l := tables_1_3) (i := 116) rfl)) rfl
theorem qf_X2_59 : Cond.fieldLink RX2 59 "StoppingPlanner$Simulation" "z" "I" ∈ AW := AW_of (qr_1 _ (List.mem_of_getElem? (l := tables_1_1) (i := 152) rfl)) rfl
theorem qm_X2_25 : Cond.methodLink RX2 25 yX2_drawRanks ∈ AW := AW_of (qr_3 _ (List.mem_of_getElem? (l := tables_1_3) (i := 117) rfl)) rfl
theorem qn_yX2_drawRanks : Cond.instanceMethod yX2_drawRanks ∈ AW := AW_of (qr_3 _ (List.mem_of_getElem? (l := tables_1_3) (i := 119) rfl)) rfl
theorem qs_yX2_drawRanks : Cond.selects RX2 yX2_drawRanks yX2_drawRanks ∈ AW := AW_of (List.mem_append_left _ (List.mem_of_getElem? (l := k2_sels lw_privs) (i := 34) rfl)) rfl
theorem qc_yX2_drawRanks : Cond.code yX2_drawRanks cX2_drawRanks 5 none ∈ AW := AW_of (qr_3 _ (List.mem_of_getElem? (l := tables_1_3) (i := 120) rfl)) rfl
theorem qm_X2_64 : Cond.methodLink RX2 64 yX2_draw ∈ AW := AW_of (qr_3 _ (List.mem_of_getElem? (l := tables_1_3) (i := 121) rfl)) rfl
theorem qn_yX2_draw : Cond.instanceMethod yX2_draw ∈ AW := AW_of (qr_3 _ (List.mem_of_getElem? (l := tables_1_3) (i := 123) rfl)) rfl
theorem qs_yX2_draw : Cond.selects RX2 yX2_draw yX2_draw ∈ AW := AW_of (List.mem_append_left _ (List.mem_of_getElem? (l := k2_sels lw_privs) (i := 35) rfl)) rfl
theorem qc_yX2_draw : Cond.code yX2_draw cX2_draw 1 (some .int) ∈ AW := AW_of (qr_3 _ (List.mem_of_getElem? (l := tables_1_3) (i := 124) rfl)) rfl
theorem qi_X2_63 : Cond.constant RX2 63 (1103515245) ∈ AW := AW_of (qr_3 _ (List.mem_of_getElem? (l := tables_1_3) (i := 125) rfl)) rfl
theorem qm_X2_28 : Cond.methodLink RX2 28 yX1_valueBefore ∈ AW := AW_of (qr_3 _ (List.mem_of_getElem? (l := tables_1_3) (i := 126) rfl)) rfl
theorem qm_X2_34 : Cond.methodLink RX2 34 yX1_takes ∈ AW := AW_of (qr_3 _ (List.mem_of_getElem? (l := tables_1_3) (i := 127) rfl)) rfl
theorem qm_X5_195 : Cond.methodLink RX5 195 yX2_resultOf ∈ AW := AW_of (qr_3 _ (List.mem_of_getElem? (l := tables_1_3) (i := 128) rfl)) rfl
theorem qn_yX2_resultOf : Cond.instanceMethod yX2_resultOf ∈ AW := AW_of (qr_3 _ (List.mem_of_getElem? (l := tables_1_3) (i := 129) rfl)) rfl
theorem qs_yX2_resultOf : Cond.selects RX2 yX2_resultOf yX2_resultOf ∈ AW := AW_of (qr_3 _ (List.mem_of_getElem? (l := tables_1_3) (i := 130) rfl)) rfl
theorem qc_yX2_resultOf : Cond.code yX2_resultOf cX2_resultOf 2 (some .int) ∈ AW := AW_of (qr_3 _ (List.mem_of_getElem? (l := tables_1_3) (i := 131) rfl)) rfl
theorem qm_L_134 : Cond.methodLink RL 134 yX6_simulateRanks ∈ AW := AW_of (qr_5 _ (List.mem_of_getElem? (l := tables_1_5) (i := 89) rfl)) rfl
theorem qn_yX6_simulateRanks : Cond.instanceMethod yX6_simulateRanks ∈ AW := AW_of (qr_5 _ (List.mem_of_getElem? (l := tables_1_5) (i := 90) rfl)) rfl
theorem qs_yX6_simulateRanks : Cond.selects RX6 yX6_simulateRanks yX6_simulateRanks ∈ AW := AW_of (qr_5 _ (List.mem_of_getElem? (l := tables_1_5) (i := 91) rfl)) rfl
theorem qc_yX6_simulateRanks : Cond.code yX6_simulateRanks cX6_simulateRanks 8 (some .int) ∈ AW := AW_of (qr_5 _ (List.mem_of_getElem? (l := tables_1_5) (i := 92) rfl)) rfl
theorem qf_X6_220 : Cond.fieldLink RX6 220 "StoppingPlannerModel" "drawn" "I" ∈ AW := AW_of (qr_4 _ (List.mem_of_getElem? (l := tables_1_4) (i := 1) rfl)) rfl
theorem qm_X6_227 : Cond.methodLink RX6 227 yX6_drawsRanks ∈ AW := AW_of (qr_5 _ (List.mem_of_getElem? (l := tables_1_5) (i := 93) rfl)) rfl
theorem qn_yX6_drawsRanks : Cond.instanceMethod yX6_drawsRanks ∈ AW := AW_of (qr_5 _ (List.mem_of_getElem? (l := tables_1_5) (i := 95) rfl)) rfl
theorem qs_yX6_drawsRanks : Cond.selects RX6 yX6_drawsRanks yX6_drawsRanks ∈ AW := AW_of (List.mem_append_left _ (List.mem_of_getElem? (l := k2_sels lw_privs) (i := 76) rfl)) rfl
theorem qc_yX6_drawsRanks : Cond.code yX6_drawsRanks cX6_drawsRanks 3 none ∈ AW := AW_of (qr_5 _ (List.mem_of_getElem? (l := tables_1_5) (i := 96) rfl)) rfl
theorem qm_X6_224 : Cond.methodLink RX6 224 yX6_draws ∈ AW := AW_of (qr_5 _ (List.mem_of_getElem? (l := tables_1_5) (i := 97) rfl)) rfl
theorem qn_yX6_draws : Cond.instanceMethod yX6_draws ∈ AW := AW_of (qr_5 _ (List.mem_of_getElem? (l := tables_1_5) (i := 99) rfl)) rfl
theorem qs_yX6_draws : Cond.selects RX6 yX6_draws yX6_draws ∈ AW := AW_of (List.mem_append_left _ (List.mem_of_getElem? (l := k2_sels lw_privs) (i := 77) rfl)) rfl
theorem qc_yX6_draws : Cond.code yX6_draws cX6_draws 1 (some .int) ∈ AW := AW_of (qr_5 _ (List.mem_of_getElem? (l := tables_1_5) (i := 100) rfl)) rfl
theorem qi_X6_223 : Cond.constant RX6 223 (1103515245) ∈ AW := AW_of (qr_5 _ (List.mem_of_getElem? (l := tables_1_5) (i := 101) rfl)) rfl
theorem qm_L_135 : Cond.methodLink RL 135 yX5_simulateValues ∈ AW := AW_of (qr_3 _ (List.mem_of_getElem? (l := tables_1_3) (i := 132) rfl)) rfl
theorem qn_yX5_simulateValues : Cond.instanceMethod yX5_simulateValues ∈ AW := AW_of (qr_3 _ (List.mem_of_getElem? (l := tables_1_3) (i := 133) rfl)) rfl
theorem qs_yX5_simulateValues : Cond.selects RX5 yX5_simulateValues yX5_simulateValues ∈ AW := AW_of (qr_3 _ (List.mem_of_getElem? (l := tables_1_3) (i := 134) rfl)) rfl
theorem qc_yX5_simulateValues : Cond.code yX5_simulateValues cX5_simulateValues 3 (some .int) ∈ AW := AW_of (qr_3 _ (List.mem_of_getElem? (l := tables_1_3) (i := 135) rfl)) rfl
theorem qm_X5_198 : Cond.methodLink RX5 198 yX2_runValues ∈ AW := AW_of (qr_3 _ (List.mem_of_getElem? (l := tables_1_3) (i := 136) rfl)) rfl
theorem qn_yX2_runValues : Cond.instanceMethod yX2_runValues ∈ AW := AW_of (qr_3 _ (List.mem_of_getElem? (l := tables_1_3) (i := 137) rfl)) rfl
theorem qs_yX2_runValues : Cond.selects RX2 yX2_runValues yX2_runValues ∈ AW := AW_of (qr_3 _ (List.mem_of_getElem? (l := tables_1_3) (i := 138) rfl)) rfl
theorem qc_yX2_runValues : Cond.code yX2_runValues cX2_runValues 11 none ∈ AW := AW_of (qr_3 _ (List.mem_of_getElem? (l := tables_1_3) (i := 139) rfl)) rfl
theorem qm_X2_38 : Cond.methodLink RX2 38 yX4_bestRecall ∈ AW := AW_of (qr_3 _ (List.mem_of_getElem? (l := tables_1_3) (i := 140) rfl)) rfl
theorem qm_X2_44 : Cond.methodLink RX2 44 yX2_recallSucceeds ∈ AW := AW_of (qr_3 _ (List.mem_of_getElem? (l := tables_1_3) (i := 141) rfl)) rfl
theorem qn_yX2_recallSucceeds : Cond.instanceMethod yX2_recallSucceeds ∈ AW := AW_of (qr_3 _ (List.mem_of_getElem? (l := tables_1_3) (i := 143) rfl)) rfl
theorem qs_yX2_recallSucceeds : Cond.selects RX2 yX2_recallSucceeds yX2_recallSucceeds ∈ AW := AW_of (List.mem_append_left _ (List.mem_of_getElem? (l := k2_sels lw_privs) (i := 36) rfl)) rfl
theorem qc_yX2_recallSucceeds : Cond.code yX2_recallSucceeds cX2_recallSucceeds 2 (some .boolean) ∈ AW := AW_of (qr_3 _ (List.mem_of_getElem? (l := tables_1_3) (i := 144) rfl)) rfl
theorem qm_X2_48 : Cond.methodLink RX2 48 yX4_valueAfterRecall ∈ AW := AW_of (qr_3 _ (List.mem_of_getElem? (l := tables_1_3) (i := 145) rfl)) rfl
theorem qm_X2_52 : Cond.methodLink RX2 52 yX2_drawLevel ∈ AW := AW_of (qr_3 _ (List.mem_of_getElem? (l := tables_1_3) (i := 146) rfl)) rfl
theorem qn_yX2_drawLevel : Cond.instanceMethod yX2_drawLevel ∈ AW := AW_of (qr_3 _ (List.mem_of_getElem? (l := tables_1_3) (i := 148) rfl)) rfl
theorem qs_yX2_drawLevel : Cond.selects RX2 yX2_drawLevel yX2_drawLevel ∈ AW := AW_of (List.mem_append_left _ (List.mem_of_getElem? (l := k2_sels lw_privs) (i := 37) rfl)) rfl
theorem qc_yX2_drawLevel : Cond.code yX2_drawLevel cX2_drawLevel 5 (some .int) ∈ AW := AW_of (qr_3 _ (List.mem_of_getElem? (l := tables_1_3) (i := 149) rfl)) rfl
theorem qm_X2_56 : Cond.methodLink RX2 56 yX4_takes ∈ AW := AW_of (qr_3 _ (List.mem_of_getElem? (l := tables_1_3) (i := 150) rfl)) rfl
theorem qm_L_138 : Cond.methodLink RL 138 yX6_simulateValues ∈ AW := AW_of (qr_5 _ (List.mem_of_getElem? (l := tables_1_5) (i := 102) rfl)) rfl
theorem qn_yX6_simulateValues : Cond.instanceMethod yX6_simulateValues ∈ AW := AW_of (qr_5 _ (List.mem_of_getElem? (l := tables_1_5) (i := 103) rfl)) rfl
theorem qs_yX6_simulateValues : Cond.selects RX6 yX6_simulateValues yX6_simulateValues ∈ AW := AW_of (qr_5 _ (List.mem_of_getElem? (l := tables_1_5) (i := 104) rfl)) rfl
theorem qc_yX6_simulateValues : Cond.code yX6_simulateValues cX6_simulateValues 5 (some .int) ∈ AW := AW_of (qr_5 _ (List.mem_of_getElem? (l := tables_1_5) (i := 105) rfl)) rfl
theorem qf_X6_230 : Cond.fieldLink RX6 230 "StoppingPlannerModel" "left" "I" ∈ AW := AW_of (qr_4 _ (List.mem_of_getElem? (l := tables_1_4) (i := 4) rfl)) rfl
theorem qf_X6_233 : Cond.fieldLink RX6 233 "StoppingPlannerModel" "young" "I" ∈ AW := AW_of (qr_4 _ (List.mem_of_getElem? (l := tables_1_4) (i := 5) rfl)) rfl
theorem qf_X6_236 : Cond.fieldLink RX6 236 "StoppingPlannerModel" "old" "I" ∈ AW := AW_of (qr_4 _ (List.mem_of_getElem? (l := tables_1_4) (i := 6) rfl)) rfl
theorem qm_X6_242 : Cond.methodLink RX6 242 yX6_triesRecall ∈ AW := AW_of (qr_5 _ (List.mem_of_getElem? (l := tables_1_5) (i := 106) rfl)) rfl
theorem qn_yX6_triesRecall : Cond.instanceMethod yX6_triesRecall ∈ AW := AW_of (qr_5 _ (List.mem_of_getElem? (l := tables_1_5) (i := 108) rfl)) rfl
theorem qs_yX6_triesRecall : Cond.selects RX6 yX6_triesRecall yX6_triesRecall ∈ AW := AW_of (List.mem_append_left _ (List.mem_of_getElem? (l := k2_sels lw_privs) (i := 78) rfl)) rfl
theorem qc_yX6_triesRecall : Cond.code yX6_triesRecall cX6_triesRecall 4 none ∈ AW := AW_of (qr_5 _ (List.mem_of_getElem? (l := tables_1_5) (i := 109) rfl)) rfl
theorem qm_X6_246 : Cond.methodLink RX6 246 yX6_observesNext ∈ AW := AW_of (qr_5 _ (List.mem_of_getElem? (l := tables_1_5) (i := 110) rfl)) rfl
theorem qn_yX6_observesNext : Cond.instanceMethod yX6_observesNext ∈ AW := AW_of (qr_5 _ (List.mem_of_getElem? (l := tables_1_5) (i := 112) rfl)) rfl
theorem qs_yX6_observesNext : Cond.selects RX6 yX6_observesNext yX6_observesNext ∈ AW := AW_of (List.mem_append_left _ (List.mem_of_getElem? (l := k2_sels lw_privs) (i := 79) rfl)) rfl
theorem qc_yX6_observesNext : Cond.code yX6_observesNext cX6_observesNext 4 none ∈ AW := AW_of (qr_5 _ (List.mem_of_getElem? (l := tables_1_5) (i := 113) rfl)) rfl
theorem qm_X6_239 : Cond.methodLink RX6 239 yX6_drawsLevel ∈ AW := AW_of (qr_5 _ (List.mem_of_getElem? (l := tables_1_5) (i := 114) rfl)) rfl
theorem qn_yX6_drawsLevel : Cond.instanceMethod yX6_drawsLevel ∈ AW := AW_of (qr_5 _ (List.mem_of_getElem? (l := tables_1_5) (i := 116) rfl)) rfl
theorem qs_yX6_drawsLevel : Cond.selects RX6 yX6_drawsLevel yX6_drawsLevel ∈ AW := AW_of (List.mem_append_left _ (List.mem_of_getElem? (l := k2_sels lw_privs) (i := 80) rfl)) rfl
theorem qc_yX6_drawsLevel : Cond.code yX6_drawsLevel cX6_drawsLevel 4 (some .int) ∈ AW := AW_of (qr_5 _ (List.mem_of_getElem? (l := tables_1_5) (i := 117) rfl)) rfl
theorem qm_L_139 : Cond.methodLink RL 139 yX5_undo ∈ AW := AW_of (qr_3 _ (List.mem_of_getElem? (l := tables_1_3) (i := 151) rfl)) rfl
theorem qn_yX5_undo : Cond.instanceMethod yX5_undo ∈ AW := AW_of (qr_3 _ (List.mem_of_getElem? (l := tables_1_3) (i := 152) rfl)) rfl
theorem qs_yX5_undo : Cond.selects RX5 yX5_undo yX5_undo ∈ AW := AW_of (qr_3 _ (List.mem_of_getElem? (l := tables_1_3) (i := 153) rfl)) rfl
theorem qc_yX5_undo : Cond.code yX5_undo cX5_undo 1 (some .int) ∈ AW := AW_of (qr_3 _ (List.mem_of_getElem? (l := tables_1_3) (i := 154) rfl)) rfl
theorem qm_X5_202 : Cond.methodLink RX5 202 yX0_size ∈ AW := AW_of (qr_3 _ (List.mem_of_getElem? (l := tables_1_3) (i := 155) rfl)) rfl
theorem qn_yX0_size : Cond.instanceMethod yX0_size ∈ AW := AW_of (qr_3 _ (List.mem_of_getElem? (l := tables_1_3) (i := 156) rfl)) rfl
theorem qs_yX0_size : Cond.selects RX0 yX0_size yX0_size ∈ AW := AW_of (qr_3 _ (List.mem_of_getElem? (l := tables_1_3) (i := 157) rfl)) rfl
theorem qc_yX0_size : Cond.code yX0_size cX0_size 1 (some .int) ∈ AW := AW_of (qr_3 _ (List.mem_of_getElem? (l := tables_1_3) (i := 158) rfl)) rfl
theorem qm_X5_205 : Cond.methodLink RX5 205 yX0_restore ∈ AW := AW_of (qr_3 _ (List.mem_of_getElem? (l := tables_1_3) (i := 159) rfl)) rfl
theorem qn_yX0_restore : Cond.instanceMethod yX0_restore ∈ AW := AW_of (qr_3 _ (List.mem_of_getElem? (l := tables_1_3) (i := 160) rfl)) rfl
theorem qs_yX0_restore : Cond.selects RX0 yX0_restore yX0_restore ∈ AW := AW_of (qr_3 _ (List.mem_of_getElem? (l := tables_1_3) (i := 161) rfl)) rfl
theorem qc_yX0_restore : Cond.code yX0_restore cX0_restore 2 none ∈ AW := AW_of (qr_3 _ (List.mem_of_getElem? (l := tables_1_3) (i := 162) rfl)) rfl
theorem qm_L_142 : Cond.methodLink RL 142 yX6_undo ∈ AW := AW_of (qr_4 _ (List.mem_of_getElem? (l := tables_1_4) (i := 58) rfl)) rfl
theorem qn_yX6_undo : Cond.instanceMethod yX6_undo ∈ AW := AW_of (qr_4 _ (List.mem_of_getElem? (l := tables_1_4) (i := 59) rfl)) rfl
theorem qs_yX6_undo : Cond.selects RX6 yX6_undo yX6_undo ∈ AW := AW_of (qr_4 _ (List.mem_of_getElem? (l := tables_1_4) (i := 60) rfl)) rfl
theorem qc_yX6_undo : Cond.code yX6_undo cX6_undo 2 (some .int) ∈ AW := AW_of (qr_4 _ (List.mem_of_getElem? (l := tables_1_4) (i := 61) rfl)) rfl
theorem qm_L_143 : Cond.methodLink RL 143 yX5_count ∈ AW := AW_of (qr_3 _ (List.mem_of_getElem? (l := tables_1_3) (i := 163) rfl)) rfl
theorem qn_yX5_count : Cond.instanceMethod yX5_count ∈ AW := AW_of (qr_3 _ (List.mem_of_getElem? (l := tables_1_3) (i := 164) rfl)) rfl
theorem qs_yX5_count : Cond.selects RX5 yX5_count yX5_count ∈ AW := AW_of (qr_3 _ (List.mem_of_getElem? (l := tables_1_3) (i := 165) rfl)) rfl
theorem qc_yX5_count : Cond.code yX5_count cX5_count 2 (some .int) ∈ AW := AW_of (qr_3 _ (List.mem_of_getElem? (l := tables_1_3) (i := 166) rfl)) rfl
theorem qm_X5_211 : Cond.methodLink RX5 211 yX3_size ∈ AW := AW_of (qr_3 _ (List.mem_of_getElem? (l := tables_1_3) (i := 167) rfl)) rfl
theorem qn_yX3_size : Cond.instanceMethod yX3_size ∈ AW := AW_of (qr_3 _ (List.mem_of_getElem? (l := tables_1_3) (i := 168) rfl)) rfl
theorem qs_yX3_size : Cond.selects RX3 yX3_size yX3_size ∈ AW := AW_of (qr_3 _ (List.mem_of_getElem? (l := tables_1_3) (i := 169) rfl)) rfl
theorem qc_yX3_size : Cond.code yX3_size cX3_size 1 (some .int) ∈ AW := AW_of (qr_3 _ (List.mem_of_getElem? (l := tables_1_3) (i := 170) rfl)) rfl
theorem qm_X5_212 : Cond.methodLink RX5 212 yX5_countWeightedLevels ∈ AW := AW_of (qr_3 _ (List.mem_of_getElem? (l := tables_1_3) (i := 171) rfl)) rfl
theorem qn_yX5_countWeightedLevels : Cond.instanceMethod yX5_countWeightedLevels ∈ AW := AW_of (qr_3 _ (List.mem_of_getElem? (l := tables_1_3) (i := 173) rfl)) rfl
theorem qs_yX5_countWeightedLevels : Cond.selects RX5 yX5_countWeightedLevels yX5_countWeightedLevels ∈ AW := AW_of (List.mem_append_left _ (List.mem_of_getElem? (l := k2_sels lw_privs) (i := 38) rfl)) rfl
theorem qc_yX5_countWeightedLevels : Cond.code yX5_countWeightedLevels cX5_countWeightedLevels 3 (some .int) ∈ AW := AW_of (qr_3 _ (List.mem_of_getElem? (l := tables_1_3) (i := 174) rfl)) rfl
theorem qm_X5_215 : Cond.methodLink RX5 215 yX5_countQuits ∈ AW := AW_of (qr_3 _ (List.mem_of_getElem? (l := tables_1_3) (i := 175) rfl)) rfl
theorem qn_yX5_countQuits : Cond.instanceMethod yX5_countQuits ∈ AW := AW_of (qr_3 _ (List.mem_of_getElem? (l := tables_1_3) (i := 177) rfl)) rfl
theorem qs_yX5_countQuits : Cond.selects RX5 yX5_countQuits yX5_countQuits ∈ AW := AW_of (List.mem_append_left _ (List.mem_of_getElem? (l := k2_sels lw_privs) (i := 39) rfl)) rfl
theorem qc_yX5_countQuits : Cond.code yX5_countQuits cX5_countQuits 4 (some .int) ∈ AW := AW_of (qr_3 _ (List.mem_of_getElem? (l := tables_1_3) (i := 178) rfl)) rfl
theorem qm_L_146 : Cond.methodLink RL 146 yX6_count ∈ AW := AW_of (qr_5 _ (List.mem_of_getElem? (l := tables_1_5) (i := 118) rfl)) rfl
theorem qn_yX6_count : Cond.instanceMethod yX6_count ∈ AW := AW_of (qr_5 _ (List.mem_of_getElem? (l := tables_1_5) (i := 119) rfl)) rfl
theorem qs_yX6_count : Cond.selects RX6 yX6_count yX6_count ∈ AW := AW_of (qr_5 _ (List.mem_of_getElem? (l := tables_1_5) (i := 120) rfl)) rfl
theorem qc_yX6_count : Cond.code yX6_count cX6_count 2 (some .int) ∈ AW := AW_of (qr_5 _ (List.mem_of_getElem? (l := tables_1_5) (i := 121) rfl)) rfl
theorem qm_X6_249 : Cond.methodLink RX6 249 yX6_weighted ∈ AW := AW_of (qr_5 _ (List.mem_of_getElem? (l := tables_1_5) (i := 122) rfl)) rfl
theorem qn_yX6_weighted : Cond.instanceMethod yX6_weighted ∈ AW := AW_of (qr_5 _ (List.mem_of_getElem? (l := tables_1_5) (i := 124) rfl)) rfl
theorem qs_yX6_weighted : Cond.selects RX6 yX6_weighted yX6_weighted ∈ AW := AW_of (List.mem_append_left _ (List.mem_of_getElem? (l := k2_sels lw_privs) (i := 81) rfl)) rfl
theorem qc_yX6_weighted : Cond.code yX6_weighted cX6_weighted 3 (some .int) ∈ AW := AW_of (qr_5 _ (List.mem_of_getElem? (l := tables_1_5) (i := 125) rfl)) rfl
theorem qm_X6_252 : Cond.methodLink RX6 252 yX6_quits ∈ AW := AW_of (qr_5 _ (List.mem_of_getElem? (l := tables_1_5) (i := 126) rfl)) rfl
theorem qn_yX6_quits : Cond.instanceMethod yX6_quits ∈ AW := AW_of (qr_5 _ (List.mem_of_getElem? (l := tables_1_5) (i := 128) rfl)) rfl
theorem qs_yX6_quits : Cond.selects RX6 yX6_quits yX6_quits ∈ AW := AW_of (List.mem_append_left _ (List.mem_of_getElem? (l := k2_sels lw_privs) (i := 82) rfl)) rfl
theorem qc_yX6_quits : Cond.code yX6_quits cX6_quits 4 (some .int) ∈ AW := AW_of (qr_5 _ (List.mem_of_getElem? (l := tables_1_5) (i := 129) rfl)) rfl
theorem qm_L_147 : Cond.methodLink RL 147 yX5_digest ∈ AW := AW_of (qr_3 _ (List.mem_of_getElem? (l := tables_1_3) (i := 179) rfl)) rfl
theorem qn_yX5_digest : Cond.instanceMethod yX5_digest ∈ AW := AW_of (qr_3 _ (List.mem_of_getElem? (l := tables_1_3) (i := 180) rfl)) rfl
theorem qs_yX5_digest : Cond.selects RX5 yX5_digest yX5_digest ∈ AW := AW_of (qr_3 _ (List.mem_of_getElem? (l := tables_1_3) (i := 181) rfl)) rfl
theorem qc_yX5_digest : Cond.code yX5_digest cX5_digest 6 (some .long) ∈ AW := AW_of (qr_3 _ (List.mem_of_getElem? (l := tables_1_3) (i := 182) rfl)) rfl
theorem ql_X5_218 : Cond.constantLong RX5 218 (18474) ∈ AW := AW_of (qr_3 _ (List.mem_of_getElem? (l := tables_1_3) (i := 183) rfl)) rfl
theorem qm_X5_220 : Cond.methodLink RX5 220 yX5_parameter ∈ AW := AW_of (qr_3 _ (List.mem_of_getElem? (l := tables_1_3) (i := 184) rfl)) rfl
theorem qm_X5_223 : Cond.methodLink RX5 223 yX5_mix ∈ AW := AW_of (qr_3 _ (List.mem_of_getElem? (l := tables_1_3) (i := 185) rfl)) rfl
theorem qt_yX5_mix : Cond.static yX5_mix ∈ AW := AW_of (qr_3 _ (List.mem_of_getElem? (l := tables_1_3) (i := 186) rfl)) rfl
theorem qc_yX5_mix : Cond.code yX5_mix cX5_mix 4 (some .long) ∈ AW := AW_of (qr_3 _ (List.mem_of_getElem? (l := tables_1_3) (i := 187) rfl)) rfl
theorem ql_X5_266 : Cond.constantLong RX5 266 (31) ∈ AW := AW_of (qr_3 _ (List.mem_of_getElem? (l := tables_1_3) (i := 188) rfl)) rfl
theorem qm_X5_226 : Cond.methodLink RX5 226 yX5_mixRankValues ∈ AW := AW_of (qr_3 _ (List.mem_of_getElem? (l := tables_1_3) (i := 189) rfl)) rfl
theorem qn_yX5_mixRankValues : Cond.instanceMethod yX5_mixRankValues ∈ AW := AW_of (qr_3 _ (List.mem_of_getElem? (l := tables_1_3) (i := 191) rfl)) rfl
theorem qs_yX5_mixRankValues : Cond.selects RX5 yX5_mixRankValues yX5_mixRankValues ∈ AW := AW_of (List.mem_append_left _ (List.mem_of_getElem? (l := k2_sels lw_privs) (i := 40) rfl)) rfl
theorem qc_yX5_mixRankValues : Cond.code yX5_mixRankValues cX5_mixRankValues 6 (some .long) ∈ AW := AW_of (qr_3 _ (List.mem_of_getElem? (l := tables_1_3) (i := 192) rfl)) rfl
theorem qm_X5_268 : Cond.methodLink RX5 268 yX5_rankValue ∈ AW := AW_of (qr_3 _ (List.mem_of_getElem? (l := tables_1_3) (i := 193) rfl)) rfl
theorem qm_X5_271 : Cond.methodLink RX5 271 yX5_mixFraction ∈ AW := AW_of (qr_3 _ (List.mem_of_getElem? (l := tables_1_3) (i := 194) rfl)) rfl
theorem qn_yX5_mixFraction : Cond.instanceMethod yX5_mixFraction ∈ AW := AW_of (qr_3 _ (List.mem_of_getElem? (l := tables_1_3) (i := 196) rfl)) rfl
theorem qs_yX5_mixFraction : Cond.selects RX5 yX5_mixFraction yX5_mixFraction ∈ AW := AW_of (List.mem_append_left _ (List.mem_of_getElem? (l := k2_sels lw_privs) (i := 41) rfl)) rfl
theorem qc_yX5_mixFraction : Cond.code yX5_mixFraction cX5_mixFraction 5 (some .long) ∈ AW := AW_of (qr_3 _ (List.mem_of_getElem? (l := tables_1_3) (i := 197) rfl)) rfl
theorem qm_X5_230 : Cond.methodLink RX5 230 yX5_mixRankPolicy ∈ AW := AW_of (qr_3 _ (List.mem_of_getElem? (l := tables_1_3) (i := 198) rfl)) rfl
theorem qn_yX5_mixRankPolicy : Cond.instanceMethod yX5_mixRankPolicy ∈ AW := AW_of (qr_3 _ (List.mem_of_getElem? (l := tables_1_3) (i := 200) rfl)) rfl
theorem qs_yX5_mixRankPolicy : Cond.selects RX5 yX5_mixRankPolicy yX5_mixRankPolicy ∈ AW := AW_of (List.mem_append_left _ (List.mem_of_getElem? (l := k2_sels lw_privs) (i := 42) rfl)) rfl
theorem qc_yX5_mixRankPolicy : Cond.code yX5_mixRankPolicy cX5_mixRankPolicy 7 (some .long) ∈ AW := AW_of (qr_3 _ (List.mem_of_getElem? (l := tables_1_3) (i := 201) rfl)) rfl
theorem qm_X5_274 : Cond.methodLink RX5 274 yX5_rankThreshold ∈ AW := AW_of (qr_3 _ (List.mem_of_getElem? (l := tables_1_3) (i := 202) rfl)) rfl
theorem qm_X5_277 : Cond.methodLink RX5 277 yX5_rankExpectation ∈ AW := AW_of (qr_3 _ (List.mem_of_getElem? (l := tables_1_3) (i := 203) rfl)) rfl
theorem qm_X5_281 : Cond.methodLink RX5 281 yX5_bestSkip ∈ AW := AW_of (qr_3 _ (List.mem_of_getElem? (l := tables_1_3) (i := 204) rfl)) rfl
theorem qm_X5_233 : Cond.methodLink RX5 233 yX5_mixSituations ∈ AW := AW_of (qr_3 _ (List.mem_of_getElem? (l := tables_1_3) (i := 205) rfl)) rfl
theorem qn_yX5_mixSituations : Cond.instanceMethod yX5_mixSituations ∈ AW := AW_of (qr_3 _ (List.mem_of_getElem? (l := tables_1_3) (i := 207) rfl)) rfl
theorem qs_yX5_mixSituations : Cond.selects RX5 yX5_mixSituations yX5_mixSituations ∈ AW := AW_of (List.mem_append_left _ (List.mem_of_getElem? (l := k2_sels lw_privs) (i := 43) rfl)) rfl
theorem qc_yX5_mixSituations : Cond.code yX5_mixSituations cX5_mixSituations 6 (some .long) ∈ AW := AW_of (qr_3 _ (List.mem_of_getElem? (l := tables_1_3) (i := 208) rfl)) rfl
theorem qm_X5_284 : Cond.methodLink RX5 284 yX5_situation ∈ AW := AW_of (qr_3 _ (List.mem_of_getElem? (l := tables_1_3) (i := 209) rfl)) rfl
theorem qm_X5_236 : Cond.methodLink RX5 236 yX5_mixValuePolicy ∈ AW := AW_of (qr_3 _ (List.mem_of_getElem? (l := tables_1_3) (i := 210) rfl)) rfl
theorem qn_yX5_mixValuePolicy : Cond.instanceMethod yX5_mixValuePolicy ∈ AW := AW_of (qr_3 _ (List.mem_of_getElem? (l := tables_1_3) (i := 212) rfl)) rfl
theorem qs_yX5_mixValuePolicy : Cond.selects RX5 yX5_mixValuePolicy yX5_mixValuePolicy ∈ AW := AW_of (List.mem_append_left _ (List.mem_of_getElem? (l := k2_sels lw_privs) (i := 44) rfl)) rfl
theorem qc_yX5_mixValuePolicy : Cond.code yX5_mixValuePolicy cX5_mixValuePolicy 6 (some .long) ∈ AW := AW_of (qr_3 _ (List.mem_of_getElem? (l := tables_1_3) (i := 213) rfl)) rfl
theorem qm_X5_287 : Cond.methodLink RX5 287 yX5_recalls ∈ AW := AW_of (qr_3 _ (List.mem_of_getElem? (l := tables_1_3) (i := 214) rfl)) rfl
theorem qm_X5_290 : Cond.methodLink RX5 290 yX5_valueThreshold ∈ AW := AW_of (qr_3 _ (List.mem_of_getElem? (l := tables_1_3) (i := 215) rfl)) rfl
theorem qm_X5_294 : Cond.methodLink RX5 294 yX5_bestFixed ∈ AW := AW_of (qr_3 _ (List.mem_of_getElem? (l := tables_1_3) (i := 216) rfl)) rfl
theorem qm_X5_297 : Cond.methodLink RX5 297 yX5_recallGain ∈ AW := AW_of (qr_3 _ (List.mem_of_getElem? (l := tables_1_3) (i := 217) rfl)) rfl
theorem qm_X5_239 : Cond.methodLink RX5 239 yX5_count ∈ AW := AW_of (qr_3 _ (List.mem_of_getElem? (l := tables_1_3) (i := 218) rfl)) rfl
theorem qm_L_150 : Cond.methodLink RL 150 yX6_digest ∈ AW := AW_of (qr_5 _ (List.mem_of_getElem? (l := tables_1_5) (i := 130) rfl)) rfl
theorem qn_yX6_digest : Cond.instanceMethod yX6_digest ∈ AW := AW_of (qr_5 _ (List.mem_of_getElem? (l := tables_1_5) (i := 131) rfl)) rfl
theorem qs_yX6_digest : Cond.selects RX6 yX6_digest yX6_digest ∈ AW := AW_of (qr_5 _ (List.mem_of_getElem? (l := tables_1_5) (i := 132) rfl)) rfl
theorem qc_yX6_digest : Cond.code yX6_digest cX6_digest 4 (some .long) ∈ AW := AW_of (qr_5 _ (List.mem_of_getElem? (l := tables_1_5) (i := 133) rfl)) rfl
theorem ql_X6_285 : Cond.constantLong RX6 285 (18474) ∈ AW := AW_of (qr_5 _ (List.mem_of_getElem? (l := tables_1_5) (i := 134) rfl)) rfl
theorem qf_X6_257 : Cond.fieldLink RX6 257 "StoppingPlannerModel" "hash" "J" ∈ AW := AW_of (qr_4 _ (List.mem_of_getElem? (l := tables_1_4) (i := 8) rfl)) rfl
theorem qm_X6_260 : Cond.methodLink RX6 260 yX6_mixes ∈ AW := AW_of (qr_5 _ (List.mem_of_getElem? (l := tables_1_5) (i := 135) rfl)) rfl
theorem qn_yX6_mixes : Cond.instanceMethod yX6_mixes ∈ AW := AW_of (qr_5 _ (List.mem_of_getElem? (l := tables_1_5) (i := 137) rfl)) rfl
theorem qs_yX6_mixes : Cond.selects RX6 yX6_mixes yX6_mixes ∈ AW := AW_of (List.mem_append_left _ (List.mem_of_getElem? (l := k2_sels lw_privs) (i := 83) rfl)) rfl
theorem qc_yX6_mixes : Cond.code yX6_mixes cX6_mixes 3 none ∈ AW := AW_of (qr_5 _ (List.mem_of_getElem? (l := tables_1_5) (i := 138) rfl)) rfl
theorem ql_X6_255 : Cond.constantLong RX6 255 (31) ∈ AW := AW_of (qr_5 _ (List.mem_of_getElem? (l := tables_1_5) (i := 139) rfl)) rfl
theorem qm_X6_287 : Cond.methodLink RX6 287 yX6_mixesAll ∈ AW := AW_of (qr_5 _ (List.mem_of_getElem? (l := tables_1_5) (i := 140) rfl)) rfl
theorem qn_yX6_mixesAll : Cond.instanceMethod yX6_mixesAll ∈ AW := AW_of (qr_5 _ (List.mem_of_getElem? (l := tables_1_5) (i := 142) rfl)) rfl
theorem qs_yX6_mixesAll : Cond.selects RX6 yX6_mixesAll yX6_mixesAll ∈ AW := AW_of (List.mem_append_left _ (List.mem_of_getElem? (l := k2_sels lw_privs) (i := 84) rfl)) rfl
theorem qc_yX6_mixesAll : Cond.code yX6_mixesAll cX6_mixesAll 3 none ∈ AW := AW_of (qr_5 _ (List.mem_of_getElem? (l := tables_1_5) (i := 143) rfl)) rfl
theorem qm_X6_264 : Cond.methodLink RX6 264 yX6_rankValue ∈ AW := AW_of (qr_5 _ (List.mem_of_getElem? (l := tables_1_5) (i := 144) rfl)) rfl
theorem qm_X6_267 : Cond.methodLink RX6 267 yX6_mixesFraction ∈ AW := AW_of (qr_5 _ (List.mem_of_getElem? (l := tables_1_5) (i := 145) rfl)) rfl
theorem qn_yX6_mixesFraction : Cond.instanceMethod yX6_mixesFraction ∈ AW := AW_of (qr_5 _ (List.mem_of_getElem? (l := tables_1_5) (i := 147) rfl)) rfl
theorem qs_yX6_mixesFraction : Cond.selects RX6 yX6_mixesFraction yX6_mixesFraction ∈ AW := AW_of (List.mem_append_left _ (List.mem_of_getElem? (l := k2_sels lw_privs) (i := 85) rfl)) rfl
theorem qc_yX6_mixesFraction : Cond.code yX6_mixesFraction cX6_mixesFraction 3 none ∈ AW := AW_of (qr_5 _ (List.mem_of_getElem? (l := tables_1_5) (i := 148) rfl)) rfl
theorem qm_X6_270 : Cond.methodLink RX6 270 yX6_rankExpectation ∈ AW := AW_of (qr_5 _ (List.mem_of_getElem? (l := tables_1_5) (i := 149) rfl)) rfl
theorem qm_X6_273 : Cond.methodLink RX6 273 yX6_bestSkip ∈ AW := AW_of (qr_5 _ (List.mem_of_getElem? (l := tables_1_5) (i := 150) rfl)) rfl
theorem qm_X6_276 : Cond.methodLink RX6 276 yX6_situation ∈ AW := AW_of (qr_5 _ (List.mem_of_getElem? (l := tables_1_5) (i := 151) rfl)) rfl
theorem qm_X6_279 : Cond.methodLink RX6 279 yX6_bestFixed ∈ AW := AW_of (qr_5 _ (List.mem_of_getElem? (l := tables_1_5) (i := 152) rfl)) rfl
theorem qm_X6_282 : Cond.methodLink RX6 282 yX6_recallGain ∈ AW := AW_of (qr_5 _ (List.mem_of_getElem? (l := tables_1_5) (i := 153) rfl)) rfl
theorem qm_X6_290 : Cond.methodLink RX6 290 yX6_count ∈ AW := AW_of (qr_5 _ (List.mem_of_getElem? (l := tables_1_5) (i := 154) rfl)) rfl
theorem qy_0_0 : Cond.laysFinal RX0 "StoppingPlanner$History" "states" "[I" ∈ AW := AW_of (qr_1 _ (List.mem_of_getElem? (l := tables_1_1) (i := 72) rfl)) rfl
theorem qy_0_1 : Cond.lays RX0 "StoppingPlanner$History" "size" "I" ∈ AW := AW_of (qr_1 _ (List.mem_of_getElem? (l := tables_1_1) (i := 74) rfl)) rfl
theorem inlX0 : ∀ w ∈ wsX00, w ∈ AW := fun w h => by
  obtain ⟨k, hk, rfl⟩ := List.mem_map.mp h
  have hk := List.mem_range.mp hk
  have hk2 : k = 0 ∨ k = 1 := by omega
  rcases hk2 with rfl | rfl
  · exact qy_0_0
  · exact qy_0_1
theorem qy_1_0 : Cond.laysFinal RX1 "StoppingPlanner$RankProblem" "worths" "[J" ∈ AW := AW_of (qr_1 _ (List.mem_of_getElem? (l := tables_1_1) (i := 89) rfl)) rfl
theorem qy_1_1 : Cond.laysFinal RX1 "StoppingPlanner$RankProblem" "befores" "[J" ∈ AW := AW_of (qr_1 _ (List.mem_of_getElem? (l := tables_1_1) (i := 91) rfl)) rfl
theorem qy_1_2 : Cond.laysFinal RX1 "StoppingPlanner$RankProblem" "followed" "[J" ∈ AW := AW_of (qr_1 _ (List.mem_of_getElem? (l := tables_1_1) (i := 93) rfl)) rfl
theorem qy_1_3 : Cond.lays RX1 "StoppingPlanner$RankProblem" "solved" "Z" ∈ AW := AW_of (qr_1 _ (List.mem_of_getElem? (l := tables_1_1) (i := 95) rfl)) rfl
theorem qy_1_4 : Cond.lays RX1 "StoppingPlanner$RankProblem" "n" "I" ∈ AW := AW_of (qr_1 _ (List.mem_of_getElem? (l := tables_1_1) (i := 97) rfl)) rfl
theorem qy_1_5 : Cond.lays RX1 "StoppingPlanner$RankProblem" "cost" "J" ∈ AW := AW_of (qr_1 _ (List.mem_of_getElem? (l := tables_1_1) (i := 99) rfl)) rfl
theorem inlX1 : ∀ w ∈ wsX10, w ∈ AW := fun w h => by
  obtain ⟨k, hk, rfl⟩ := List.mem_map.mp h
  have hk := List.mem_range.mp hk
  have hk2 : k = 0 ∨ k = 1 ∨ k = 2 ∨ k = 3 ∨ k = 4 ∨ k = 5 := by omega
  rcases hk2 with rfl | rfl | rfl | rfl | rfl | rfl
  · exact qy_1_0
  · exact qy_1_1
  · exact qy_1_2
  · exact qy_1_3
  · exact qy_1_4
  · exact qy_1_5
theorem qy_2_0 : Cond.laysFinal RX2 "StoppingPlanner$Simulation" "results" "[I" ∈ AW := AW_of (qr_1 _ (List.mem_of_getElem? (l := tables_1_1) (i := 153) rfl)) rfl
theorem qy_2_1 : Cond.laysFinal RX2 "StoppingPlanner$Simulation" "relativeRanks" "[I" ∈ AW := AW_of (qr_1 _ (List.mem_of_getElem? (l := tables_1_1) (i := 155) rfl)) rfl
theorem qy_2_2 : Cond.laysFinal RX2 "StoppingPlanner$Simulation" "finalRanks" "[I" ∈ AW := AW_of (qr_1 _ (List.mem_of_getElem? (l := tables_1_1) (i := 157) rfl)) rfl
theorem qy_2_3 : Cond.lays RX2 "StoppingPlanner$Simulation" "z" "I" ∈ AW := AW_of (qr_1 _ (List.mem_of_getElem? (l := tables_1_1) (i := 159) rfl)) rfl
theorem inlX2 : ∀ w ∈ wsX20, w ∈ AW := fun w h => by
  obtain ⟨k, hk, rfl⟩ := List.mem_map.mp h
  have hk := List.mem_range.mp hk
  have hk2 : k = 0 ∨ k = 1 ∨ k = 2 ∨ k = 3 := by omega
  rcases hk2 with rfl | rfl | rfl | rfl
  · exact qy_2_0
  · exact qy_2_1
  · exact qy_2_2
  · exact qy_2_3
theorem qy_3_0 : Cond.laysFinal RX3 "StoppingPlanner$Text" "codes" "[I" ∈ AW := AW_of (qr_1 _ (List.mem_of_getElem? (l := tables_1_1) (i := 40) rfl)) rfl
theorem qy_3_1 : Cond.laysFinal RX3 "StoppingPlanner$Text" "staged" "[I" ∈ AW := AW_of (qr_1 _ (List.mem_of_getElem? (l := tables_1_1) (i := 42) rfl)) rfl
theorem qy_3_2 : Cond.lays RX3 "StoppingPlanner$Text" "size" "I" ∈ AW := AW_of (qr_1 _ (List.mem_of_getElem? (l := tables_1_1) (i := 44) rfl)) rfl
theorem qy_3_3 : Cond.lays RX3 "StoppingPlanner$Text" "fault" "I" ∈ AW := AW_of (qr_1 _ (List.mem_of_getElem? (l := tables_1_1) (i := 46) rfl)) rfl
theorem qy_3_4 : Cond.lays RX3 "StoppingPlanner$Text" "faultPosition" "I" ∈ AW := AW_of (qr_1 _ (List.mem_of_getElem? (l := tables_1_1) (i := 48) rfl)) rfl
theorem qy_3_5 : Cond.lays RX3 "StoppingPlanner$Text" "items" "I" ∈ AW := AW_of (qr_1 _ (List.mem_of_getElem? (l := tables_1_1) (i := 50) rfl)) rfl
theorem qy_3_6 : Cond.lays RX3 "StoppingPlanner$Text" "item" "I" ∈ AW := AW_of (qr_1 _ (List.mem_of_getElem? (l := tables_1_1) (i := 52) rfl)) rfl
theorem qy_3_7 : Cond.lays RX3 "StoppingPlanner$Text" "numbers" "I" ∈ AW := AW_of (qr_1 _ (List.mem_of_getElem? (l := tables_1_1) (i := 54) rfl)) rfl
theorem qy_3_8 : Cond.lays RX3 "StoppingPlanner$Text" "digits" "I" ∈ AW := AW_of (qr_1 _ (List.mem_of_getElem? (l := tables_1_1) (i := 56) rfl)) rfl
theorem qy_3_9 : Cond.lays RX3 "StoppingPlanner$Text" "number" "I" ∈ AW := AW_of (qr_1 _ (List.mem_of_getElem? (l := tables_1_1) (i := 58) rfl)) rfl
theorem qy_3_10 : Cond.lays RX3 "StoppingPlanner$Text" "numberPosition" "I" ∈ AW := AW_of (qr_1 _ (List.mem_of_getElem? (l := tables_1_1) (i := 60) rfl)) rfl
theorem inlX3 : ∀ w ∈ wsX30, w ∈ AW := fun w h => by
  obtain ⟨k, hk, rfl⟩ := List.mem_map.mp h
  have hk := List.mem_range.mp hk
  have hk2 : k = 0 ∨ k = 1 ∨ k = 2 ∨ k = 3 ∨ k = 4 ∨ k = 5 ∨ k = 6 ∨ k = 7 ∨ k = 8 ∨ k = 9 ∨ k = 10 := by omega
  rcases hk2 with rfl | rfl | rfl | rfl | rfl | rfl | rfl | rfl | rfl | rfl | rfl
  · exact qy_3_0
  · exact qy_3_1
  · exact qy_3_2
  · exact qy_3_3
  · exact qy_3_4
  · exact qy_3_5
  · exact qy_3_6
  · exact qy_3_7
  · exact qy_3_8
  · exact qy_3_9
  · exact qy_3_10
theorem qy_4_0 : Cond.laysFinal RX4 "StoppingPlanner$ValueProblem" "withRecall" "Z" ∈ AW := AW_of (qr_1 _ (List.mem_of_getElem? (l := tables_1_1) (i := 120) rfl)) rfl
theorem qy_4_1 : Cond.laysFinal RX4 "StoppingPlanner$ValueProblem" "befores" "[J" ∈ AW := AW_of (qr_1 _ (List.mem_of_getElem? (l := tables_1_1) (i := 122) rfl)) rfl
theorem qy_4_2 : Cond.laysFinal RX4 "StoppingPlanner$ValueProblem" "afters" "[J" ∈ AW := AW_of (qr_1 _ (List.mem_of_getElem? (l := tables_1_1) (i := 124) rfl)) rfl
theorem qy_4_3 : Cond.laysFinal RX4 "StoppingPlanner$ValueProblem" "followed" "[J" ∈ AW := AW_of (qr_1 _ (List.mem_of_getElem? (l := tables_1_1) (i := 126) rfl)) rfl
theorem qy_4_4 : Cond.laysFinal RX4 "StoppingPlanner$ValueProblem" "levels" "[J" ∈ AW := AW_of (qr_1 _ (List.mem_of_getElem? (l := tables_1_1) (i := 128) rfl)) rfl
theorem qy_4_5 : Cond.laysFinal RX4 "StoppingPlanner$ValueProblem" "weights" "[I" ∈ AW := AW_of (qr_1 _ (List.mem_of_getElem? (l := tables_1_1) (i := 130) rfl)) rfl
theorem qy_4_6 : Cond.lays RX4 "StoppingPlanner$ValueProblem" "solved" "Z" ∈ AW := AW_of (qr_1 _ (List.mem_of_getElem? (l := tables_1_1) (i := 132) rfl)) rfl
theorem qy_4_7 : Cond.lays RX4 "StoppingPlanner$ValueProblem" "n" "I" ∈ AW := AW_of (qr_1 _ (List.mem_of_getElem? (l := tables_1_1) (i := 134) rfl)) rfl
theorem qy_4_8 : Cond.lays RX4 "StoppingPlanner$ValueProblem" "cost" "J" ∈ AW := AW_of (qr_1 _ (List.mem_of_getElem? (l := tables_1_1) (i := 136) rfl)) rfl
theorem qy_4_9 : Cond.lays RX4 "StoppingPlanner$ValueProblem" "chanceOfAge1" "I" ∈ AW := AW_of (qr_1 _ (List.mem_of_getElem? (l := tables_1_1) (i := 138) rfl)) rfl
theorem qy_4_10 : Cond.lays RX4 "StoppingPlanner$ValueProblem" "chanceOfAge2" "I" ∈ AW := AW_of (qr_1 _ (List.mem_of_getElem? (l := tables_1_1) (i := 140) rfl)) rfl
theorem inlX4 : ∀ w ∈ wsX40, w ∈ AW := fun w h => by
  obtain ⟨k, hk, rfl⟩ := List.mem_map.mp h
  have hk := List.mem_range.mp hk
  have hk2 : k = 0 ∨ k = 1 ∨ k = 2 ∨ k = 3 ∨ k = 4 ∨ k = 5 ∨ k = 6 ∨ k = 7 ∨ k = 8 ∨ k = 9 ∨ k = 10 := by omega
  rcases hk2 with rfl | rfl | rfl | rfl | rfl | rfl | rfl | rfl | rfl | rfl | rfl
  · exact qy_4_0
  · exact qy_4_1
  · exact qy_4_2
  · exact qy_4_3
  · exact qy_4_4
  · exact qy_4_5
  · exact qy_4_6
  · exact qy_4_7
  · exact qy_4_8
  · exact qy_4_9
  · exact qy_4_10
theorem qy_5_0 : Cond.laysFinal RX5 "StoppingPlanner" "parameters" "[I" ∈ AW := AW_of (qr_1 _ (List.mem_of_getElem? (l := tables_1_1) (i := 171) rfl)) rfl
theorem qy_5_1 : Cond.laysFinal RX5 "StoppingPlanner" "text" "LStoppingPlanner$Text;" ∈ AW := AW_of (qr_1 _ (List.mem_of_getElem? (l := tables_1_1) (i := 173) rfl)) rfl
theorem qy_5_2 : Cond.laysFinal RX5 "StoppingPlanner" "history" "LStoppingPlanner$History;" ∈ AW := AW_of (qr_1 _ (List.mem_of_getElem? (l := tables_1_1) (i := 175) rfl)) rfl
theorem qy_5_3 : Cond.laysFinal RX5 "StoppingPlanner" "ranks" "LStoppingPlanner$RankProblem;" ∈ AW := AW_of (qr_1 _ (List.mem_of_getElem? (l := tables_1_1) (i := 177) rfl)) rfl
theorem qy_5_4 : Cond.laysFinal RX5 "StoppingPlanner" "values" "LStoppingPlanner$ValueProblem;" ∈ AW := AW_of (qr_1 _ (List.mem_of_getElem? (l := tables_1_1) (i := 179) rfl)) rfl
theorem qy_5_5 : Cond.laysFinal RX5 "StoppingPlanner" "valuesWithoutRecall" "LStoppingPlanner$ValueProblem;" ∈ AW := AW_of (qr_1 _ (List.mem_of_getElem? (l := tables_1_1) (i := 181) rfl)) rfl
theorem qy_5_6 : Cond.laysFinal RX5 "StoppingPlanner" "simulation" "LStoppingPlanner$Simulation;" ∈ AW := AW_of (qr_1 _ (List.mem_of_getElem? (l := tables_1_1) (i := 183) rfl)) rfl
theorem qy_5_7 : Cond.lays RX5 "StoppingPlanner" "latestFault" "I" ∈ AW := AW_of (qr_1 _ (List.mem_of_getElem? (l := tables_1_1) (i := 185) rfl)) rfl
theorem qy_5_8 : Cond.lays RX5 "StoppingPlanner" "latestDenominator" "J" ∈ AW := AW_of (qr_1 _ (List.mem_of_getElem? (l := tables_1_1) (i := 187) rfl)) rfl
theorem inlX5 : ∀ w ∈ wsX50, w ∈ AW := fun w h => by
  obtain ⟨k, hk, rfl⟩ := List.mem_map.mp h
  have hk := List.mem_range.mp hk
  have hk2 : k = 0 ∨ k = 1 ∨ k = 2 ∨ k = 3 ∨ k = 4 ∨ k = 5 ∨ k = 6 ∨ k = 7 ∨ k = 8 := by omega
  rcases hk2 with rfl | rfl | rfl | rfl | rfl | rfl | rfl | rfl | rfl
  · exact qy_5_0
  · exact qy_5_1
  · exact qy_5_2
  · exact qy_5_3
  · exact qy_5_4
  · exact qy_5_5
  · exact qy_5_6
  · exact qy_5_7
  · exact qy_5_8
theorem qy_6_0 : Cond.laysFinal RX6 "StoppingPlannerModel" "row" "[I" ∈ AW := AW_of (qr_4 _ (List.mem_of_getElem? (l := tables_1_4) (i := 9) rfl)) rfl
theorem qy_6_1 : Cond.laysFinal RX6 "StoppingPlannerModel" "backs" "[I" ∈ AW := AW_of (qr_4 _ (List.mem_of_getElem? (l := tables_1_4) (i := 11) rfl)) rfl
theorem qy_6_2 : Cond.lays RX6 "StoppingPlannerModel" "backMany" "I" ∈ AW := AW_of (qr_4 _ (List.mem_of_getElem? (l := tables_1_4) (i := 13) rfl)) rfl
theorem qy_6_3 : Cond.lays RX6 "StoppingPlannerModel" "under" "J" ∈ AW := AW_of (qr_4 _ (List.mem_of_getElem? (l := tables_1_4) (i := 15) rfl)) rfl
theorem qy_6_4 : Cond.laysFinal RX6 "StoppingPlannerModel" "text" "[I" ∈ AW := AW_of (qr_4 _ (List.mem_of_getElem? (l := tables_1_4) (i := 17) rfl)) rfl
theorem qy_6_5 : Cond.lays RX6 "StoppingPlannerModel" "typed" "I" ∈ AW := AW_of (qr_4 _ (List.mem_of_getElem? (l := tables_1_4) (i := 19) rfl)) rfl
theorem qy_6_6 : Cond.laysFinal RX6 "StoppingPlannerModel" "draft" "[I" ∈ AW := AW_of (qr_4 _ (List.mem_of_getElem? (l := tables_1_4) (i := 21) rfl)) rfl
theorem qy_6_7 : Cond.lays RX6 "StoppingPlannerModel" "spot" "I" ∈ AW := AW_of (qr_4 _ (List.mem_of_getElem? (l := tables_1_4) (i := 23) rfl)) rfl
theorem qy_6_8 : Cond.lays RX6 "StoppingPlannerModel" "fault" "I" ∈ AW := AW_of (qr_4 _ (List.mem_of_getElem? (l := tables_1_4) (i := 25) rfl)) rfl
theorem qy_6_9 : Cond.lays RX6 "StoppingPlannerModel" "faultAt" "I" ∈ AW := AW_of (qr_4 _ (List.mem_of_getElem? (l := tables_1_4) (i := 27) rfl)) rfl
theorem qy_6_10 : Cond.lays RX6 "StoppingPlannerModel" "known" "Z" ∈ AW := AW_of (qr_4 _ (List.mem_of_getElem? (l := tables_1_4) (i := 29) rfl)) rfl
theorem qy_6_11 : Cond.laysFinal RX6 "StoppingPlannerModel" "worths" "[J" ∈ AW := AW_of (qr_4 _ (List.mem_of_getElem? (l := tables_1_4) (i := 31) rfl)) rfl
theorem qy_6_12 : Cond.laysFinal RX6 "StoppingPlannerModel" "rankValues" "[J" ∈ AW := AW_of (qr_4 _ (List.mem_of_getElem? (l := tables_1_4) (i := 33) rfl)) rfl
theorem qy_6_13 : Cond.laysFinal RX6 "StoppingPlannerModel" "stays" "[J" ∈ AW := AW_of (qr_4 _ (List.mem_of_getElem? (l := tables_1_4) (i := 35) rfl)) rfl
theorem qy_6_14 : Cond.laysFinal RX6 "StoppingPlannerModel" "goes" "[J" ∈ AW := AW_of (qr_4 _ (List.mem_of_getElem? (l := tables_1_4) (i := 37) rfl)) rfl
theorem qy_6_15 : Cond.laysFinal RX6 "StoppingPlannerModel" "expected" "[J" ∈ AW := AW_of (qr_4 _ (List.mem_of_getElem? (l := tables_1_4) (i := 39) rfl)) rfl
theorem qy_6_16 : Cond.lays RX6 "StoppingPlannerModel" "drawn" "I" ∈ AW := AW_of (qr_4 _ (List.mem_of_getElem? (l := tables_1_4) (i := 41) rfl)) rfl
theorem qy_6_17 : Cond.laysFinal RX6 "StoppingPlannerModel" "relative" "[I" ∈ AW := AW_of (qr_4 _ (List.mem_of_getElem? (l := tables_1_4) (i := 43) rfl)) rfl
theorem qy_6_18 : Cond.laysFinal RX6 "StoppingPlannerModel" "ranked" "[I" ∈ AW := AW_of (qr_4 _ (List.mem_of_getElem? (l := tables_1_4) (i := 45) rfl)) rfl
theorem qy_6_19 : Cond.lays RX6 "StoppingPlannerModel" "left" "I" ∈ AW := AW_of (qr_4 _ (List.mem_of_getElem? (l := tables_1_4) (i := 47) rfl)) rfl
theorem qy_6_20 : Cond.lays RX6 "StoppingPlannerModel" "young" "I" ∈ AW := AW_of (qr_4 _ (List.mem_of_getElem? (l := tables_1_4) (i := 49) rfl)) rfl
theorem qy_6_21 : Cond.lays RX6 "StoppingPlannerModel" "old" "I" ∈ AW := AW_of (qr_4 _ (List.mem_of_getElem? (l := tables_1_4) (i := 51) rfl)) rfl
theorem qy_6_22 : Cond.laysFinal RX6 "StoppingPlannerModel" "came" "[I" ∈ AW := AW_of (qr_4 _ (List.mem_of_getElem? (l := tables_1_4) (i := 53) rfl)) rfl
theorem qy_6_23 : Cond.lays RX6 "StoppingPlannerModel" "hash" "J" ∈ AW := AW_of (qr_4 _ (List.mem_of_getElem? (l := tables_1_4) (i := 55) rfl)) rfl
theorem inlX6 : ∀ w ∈ wsX60, w ∈ AW := fun w h => by
  obtain ⟨k, hk, rfl⟩ := List.mem_map.mp h
  have hk := List.mem_range.mp hk
  have hk2 : k = 0 ∨ k = 1 ∨ k = 2 ∨ k = 3 ∨ k = 4 ∨ k = 5 ∨ k = 6 ∨ k = 7 ∨ k = 8 ∨ k = 9 ∨ k = 10 ∨ k = 11 ∨ k = 12 ∨ k = 13 ∨ k = 14 ∨ k = 15 ∨ k = 16 ∨ k = 17 ∨ k = 18 ∨ k = 19 ∨ k = 20 ∨ k = 21 ∨ k = 22 ∨ k = 23 := by omega
  rcases hk2 with rfl | rfl | rfl | rfl | rfl | rfl | rfl | rfl | rfl | rfl | rfl | rfl | rfl | rfl | rfl | rfl | rfl | rfl | rfl | rfl | rfl | rfl | rfl | rfl
  · exact qy_6_0
  · exact qy_6_1
  · exact qy_6_2
  · exact qy_6_3
  · exact qy_6_4
  · exact qy_6_5
  · exact qy_6_6
  · exact qy_6_7
  · exact qy_6_8
  · exact qy_6_9
  · exact qy_6_10
  · exact qy_6_11
  · exact qy_6_12
  · exact qy_6_13
  · exact qy_6_14
  · exact qy_6_15
  · exact qy_6_16
  · exact qy_6_17
  · exact qy_6_18
  · exact qy_6_19
  · exact qy_6_20
  · exact qy_6_21
  · exact qy_6_22
  · exact qy_6_23
