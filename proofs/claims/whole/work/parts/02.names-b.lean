abbrev cX0_count : ByteArray := prog_2_method_2_code
def yX0_count : MethodName := ⟨RX0, "count", "(LModedMill$Report;)I"⟩
abbrev cX0_begin : ByteArray := prog_2_method_3_code
def yX0_begin : MethodName := ⟨RX0, "begin", "(LModedMill$Predicate;LModedMill$Report;)V"⟩
abbrev cX0_newUnknown : ByteArray := prog_2_method_4_code
def yX0_newUnknown : MethodName := ⟨RX0, "newUnknown", "()I"⟩
abbrev cX0_putQuestion : ByteArray := prog_2_method_5_code
def yX0_putQuestion : MethodName := ⟨RX0, "putQuestion", "(III)V"⟩
abbrev cX0_addToRow : ByteArray := prog_2_method_6_code
def yX0_addToRow : MethodName := ⟨RX0, "addToRow", "(IIIII)V"⟩
abbrev cX0_goalOf : ByteArray := prog_2_method_7_code
def yX0_goalOf : MethodName := ⟨RX0, "goalOf", "(I)LModedMill$Goal;"⟩
abbrev cX0_nodeOf : ByteArray := prog_2_method_8_code
def yX0_nodeOf : MethodName := ⟨RX0, "nodeOf", "(LModedMill$Goal;II)I"⟩
abbrev cX0_takeOff : ByteArray := prog_2_method_9_code
def yX0_takeOff : MethodName := ⟨RX0, "takeOff", "()I"⟩
abbrev cX0_openClause : ByteArray := prog_2_method_10_code
def yX0_openClause : MethodName := ⟨RX0, "openClause", "(LModedMill$Clause;LModedMill$Goal;II)I"⟩
abbrev cX0_resolve : ByteArray := prog_2_method_11_code
def yX0_resolve : MethodName := ⟨RX0, "resolve", "(I)V"⟩
abbrev cX0_bind : ByteArray := prog_2_method_12_code
def yX0_bind : MethodName := ⟨RX0, "bind", "(IIZ)V"⟩
abbrev cX0_rightSide : ByteArray := prog_2_method_13_code
def yX0_rightSide : MethodName := ⟨RX0, "rightSide", "(LModedMill$Goal;I)I"⟩
abbrev cX0_restore : ByteArray := prog_2_method_14_code
def yX0_restore : MethodName := ⟨RX0, "restore", "(I)V"⟩
abbrev cX0_bindPath : ByteArray := prog_2_method_15_code
def yX0_bindPath : MethodName := ⟨RX0, "bindPath", "(IZ)V"⟩
abbrev cX0_firstToResolve : ByteArray := prog_2_method_16_code
def yX0_firstToResolve : MethodName := ⟨RX0, "firstToResolve", "(I)I"⟩
abbrev cX0_without : ByteArray := prog_2_method_17_code
def yX0_without : MethodName := ⟨RX0, "without", "(II)I"⟩
abbrev cX0_beginDenied : ByteArray := prog_2_method_18_code
def yX0_beginDenied : MethodName := ⟨RX0, "beginDenied", "(IILModedMill$Goal;I)V"⟩
abbrev cX0_endDenied : ByteArray := prog_2_method_19_code
def yX0_endDenied : MethodName := ⟨RX0, "endDenied", "(Z)V"⟩
abbrev cX0_find : ByteArray := prog_2_method_20_code
def yX0_find : MethodName := ⟨RX0, "find", "(I)I"⟩
abbrev cX0_unify : ByteArray := prog_2_method_21_code
def yX0_unify : MethodName := ⟨RX0, "unify", "(II)Z"⟩
abbrev cX0_join : ByteArray := prog_2_method_22_code
def yX0_join : MethodName := ⟨RX0, "join", "(II)Z"⟩
abbrev cX0_isGround : ByteArray := prog_2_method_23_code
def yX0_isGround : MethodName := ⟨RX0, "isGround", "(LModedMill$Goal;I)Z"⟩
abbrev cX0_isFinite : ByteArray := prog_2_method_24_code
def yX0_isFinite : MethodName := ⟨RX0, "isFinite", "(I)Z"⟩
abbrev cX0_markOf : ByteArray := prog_2_method_25_code
def yX0_markOf : MethodName := ⟨RX0, "markOf", "(I)I"⟩
abbrev cX0_setMark : ByteArray := prog_2_method_26_code
def yX0_setMark : MethodName := ⟨RX0, "setMark", "(II)V"⟩
abbrev cX0_scan : ByteArray := prog_2_method_27_code
def yX0_scan : MethodName := ⟨RX0, "scan", "(I)Z"⟩
abbrev wsX10 : List Cond := u_ws RX1 TX1 9
abbrev cX1_init : ByteArray := prog_3_method_1_code
def yX1_init : MethodName := ⟨RX1, "<init>", "(ILModedMill$Predicate;)V"⟩
abbrev cX1_typeAt : ByteArray := prog_3_method_2_code
def yX1_typeAt : MethodName := ⟨RX1, "typeAt", "(I)I"⟩
abbrev cX1_goalCount : ByteArray := prog_3_method_3_code
def yX1_goalCount : MethodName := ⟨RX1, "goalCount", "()I"⟩
abbrev cX1_goalNumbered : ByteArray := prog_3_method_4_code
def yX1_goalNumbered : MethodName := ⟨RX1, "goalNumbered", "(I)LModedMill$Goal;"⟩
abbrev cX1_takesTypes : ByteArray := prog_3_method_5_code
def yX1_takesTypes : MethodName := ⟨RX1, "takesTypes", "(LModedMill$Goal;III)Z"⟩
abbrev cX1_newGoal : ByteArray := prog_3_method_6_code
def yX1_newGoal : MethodName := ⟨RX1, "newGoal", "(LModedMill$Goal;III)I"⟩
abbrev cX1_placeCount : ByteArray := prog_3_method_7_code
def yX1_placeCount : MethodName := ⟨RX1, "placeCount", "(I)I"⟩
abbrev cX1_clearOrder : ByteArray := prog_3_method_8_code
def yX1_clearOrder : MethodName := ⟨RX1, "clearOrder", "(I)V"⟩
abbrev cX1_takeNext : ByteArray := prog_3_method_9_code
def yX1_takeNext : MethodName := ⟨RX1, "takeNext", "(IILModedMill$Mode;I)V"⟩
abbrev cX1_slot : ByteArray := prog_3_method_10_code
def yX1_slot : MethodName := ⟨RX1, "slot", "(II)I"⟩
abbrev cX1_goalNumberIn : ByteArray := prog_3_method_11_code
def yX1_goalNumberIn : MethodName := ⟨RX1, "goalNumberIn", "(II)I"⟩
abbrev cX1_goalIn : ByteArray := prog_3_method_12_code
def yX1_goalIn : MethodName := ⟨RX1, "goalIn", "(II)LModedMill$Goal;"⟩
abbrev cX1_chosenIn : ByteArray := prog_3_method_13_code
def yX1_chosenIn : MethodName := ⟨RX1, "chosenIn", "(II)LModedMill$Mode;"⟩
abbrev cX1_knownIn : ByteArray := prog_3_method_14_code
def yX1_knownIn : MethodName := ⟨RX1, "knownIn", "(II)I"⟩
abbrev wsX20 : List Cond := u_ws RX2 TX2 10
abbrev cX2_init : ByteArray := prog_4_method_1_code
def yX2_init : MethodName := ⟨RX2, "<init>", "(ILModedMill$Mode;)V"⟩
abbrev cX2_begin : ByteArray := prog_4_method_2_code
def yX2_begin : MethodName := ⟨RX2, "begin", "(LModedMill$Mode;LModedMill$Frame;I)V"⟩
abbrev cX2_valueOf : ByteArray := prog_4_method_3_code
def yX2_valueOf : MethodName := ⟨RX2, "valueOf", "(I)I"⟩
abbrev cX2_setValue : ByteArray := prog_4_method_4_code
def yX2_setValue : MethodName := ⟨RX2, "setValue", "(II)V"⟩
def tyX3 : Nat → FieldType := fun k => match k with
  | 0 => .int
  | 1 => .int
  | 2 => .int
  | _ => .array .int
abbrev wsX30 : List Cond := u_ws RX3 TX3 4
theorem nmX3 : ∀ a, a < 4 → ∀ b, b < 4 → a ≠ b → (TX3 a).2.1 ≠ (TX3 b).2.1 := by decide +kernel
theorem tyX3_ok : ∀ k, k < 4 → parseFieldDescriptor (TX3 k).2.2.1 = some (tyX3 k) := by decide +kernel
abbrev cX3_init : ByteArray := prog_5_method_1_code
def yX3_init : MethodName := ⟨RX3, "<init>", "(IIIIII)V"⟩
abbrev cX3_isCalling : ByteArray := prog_5_method_2_code
def yX3_isCalling : MethodName := ⟨RX3, "isCalling", "()Z"⟩
abbrev cX3_variableAt : ByteArray := prog_5_method_3_code
def yX3_variableAt : MethodName := ⟨RX3, "variableAt", "(I)I"⟩
abbrev cX3_isBareBehindEnd : ByteArray := prog_5_method_4_code
def yX3_isBareBehindEnd : MethodName := ⟨RX3, "isBareBehindEnd", "()Z"⟩
abbrev cX3_variableSet : ByteArray := prog_5_method_5_code
def yX3_variableSet : MethodName := ⟨RX3, "variableSet", "(I)I"⟩
abbrev cX4_run : ByteArray := prog_6_method_2_code
def yX4_run : MethodName := ⟨RX4, "run", "(LModedMill$Mode;LModedMill$Report;)Z"⟩
abbrev cX4_begin : ByteArray := prog_6_method_3_code
def yX4_begin : MethodName := ⟨RX4, "begin", "(LModedMill$Mode;LModedMill$Report;)V"⟩
abbrev cX4_newFrame : ByteArray := prog_6_method_4_code
def yX4_newFrame : MethodName := ⟨RX4, "newFrame", "(LModedMill$Mode;LModedMill$Frame;)LModedMill$Frame;"⟩
abbrev cX4_finish : ByteArray := prog_6_method_5_code
def yX4_finish : MethodName := ⟨RX4, "finish", "(C)V"⟩
abbrev cX4_enter : ByteArray := prog_6_method_6_code
def yX4_enter : MethodName := ⟨RX4, "enter", "(LModedMill$Frame;)V"⟩
abbrev cX4_firstClause : ByteArray := prog_6_method_7_code
def yX4_firstClause : MethodName := ⟨RX4, "firstClause", "(LModedMill$Frame;)LModedMill$Clause;"⟩
abbrev cX4_tryClause : ByteArray := prog_6_method_8_code
def yX4_tryClause : MethodName := ⟨RX4, "tryClause", "(LModedMill$Frame;LModedMill$Clause;)V"⟩
abbrev cX4_goBack : ByteArray := prog_6_method_9_code
def yX4_goBack : MethodName := ⟨RX4, "goBack", "()V"⟩
abbrev cX4_frameAt : ByteArray := prog_6_method_10_code
def yX4_frameAt : MethodName := ⟨RX4, "frameAt", "(I)LModedMill$Frame;"⟩
abbrev cX4_undo : ByteArray := prog_6_method_11_code
def yX4_undo : MethodName := ⟨RX4, "undo", "(I)V"⟩
abbrev cX4_leave : ByteArray := prog_6_method_12_code
def yX4_leave : MethodName := ⟨RX4, "leave", "(LModedMill$Frame;)V"⟩
abbrev cX4_addAnswer : ByteArray := prog_6_method_13_code
def yX4_addAnswer : MethodName := ⟨RX4, "addAnswer", "(LModedMill$Frame;)V"⟩
abbrev cX4_handsBack : ByteArray := prog_6_method_14_code
def yX4_handsBack : MethodName := ⟨RX4, "handsBack", "(LModedMill$Frame;LModedMill$Frame;)Z"⟩
abbrev cX4_agrees : ByteArray := prog_6_method_15_code
def yX4_agrees : MethodName := ⟨RX4, "agrees", "(LModedMill$Frame;II)Z"⟩
abbrev cX4_beginGoal : ByteArray := prog_6_method_16_code
def yX4_beginGoal : MethodName := ⟨RX4, "beginGoal", "(LModedMill$Frame;LModedMill$Goal;)V"⟩
abbrev cX4_beginCall : ByteArray := prog_6_method_17_code
def yX4_beginCall : MethodName := ⟨RX4, "beginCall", "(LModedMill$Frame;LModedMill$Goal;)V"⟩
abbrev cX4_build : ByteArray := prog_6_method_18_code
def yX4_build : MethodName := ⟨RX4, "build", "(LModedMill$Frame;LModedMill$Goal;)V"⟩
abbrev cX4_comesApart : ByteArray := prog_6_method_19_code
def yX4_comesApart : MethodName := ⟨RX4, "comesApart", "(LModedMill$Frame;LModedMill$Goal;I)Z"⟩
abbrev wsX50 : List Cond := u_ws RX5 TX5 9
abbrev cX5_init : ByteArray := prog_7_method_1_code
def yX5_init : MethodName := ⟨RX5, "<init>", "(LModedMill$Predicate;IIC)V"⟩
abbrev cX5_isInput : ByteArray := prog_7_method_2_code
def yX5_isInput : MethodName := ⟨RX5, "isInput", "(I)Z"⟩
abbrev cX5_foundSign : ByteArray := prog_7_method_3_code
def yX5_foundSign : MethodName := ⟨RX5, "foundSign", "()C"⟩
abbrev cX5_isBroken : ByteArray := prog_7_method_4_code
def yX5_isBroken : MethodName := ⟨RX5, "isBroken", "()Z"⟩
abbrev cX5_faultSign : ByteArray := prog_7_method_5_code
def yX5_faultSign : MethodName := ⟨RX5, "faultSign", "()C"⟩
def tyX6 : Nat → FieldType := fun k => match k with
  | 0 => .int
  | 1 => .object "ModedMill$Table"
  | 2 => .object "java/util/ArrayList"
  | 3 => .object "java/util/ArrayList"
  | _ => .object "ModedMill$Goal"
abbrev wsX60 : List Cond := u_ws RX6 TX6 5
theorem nmX6 : ∀ a, a < 5 → ∀ b, b < 5 → a ≠ b → (TX6 a).2.1 ≠ (TX6 b).2.1 := by decide +kernel
theorem tyX6_ok : ∀ k, k < 5 → parseFieldDescriptor (TX6 k).2.2.1 = some (tyX6 k) := by decide +kernel
abbrev cX6_init : ByteArray := prog_8_method_1_code
def yX6_init : MethodName := ⟨RX6, "<init>", "(IIII)V"⟩
abbrev cX6_arity : ByteArray := prog_8_method_2_code
def yX6_arity : MethodName := ⟨RX6, "arity", "()I"⟩
abbrev cX6_typeAt : ByteArray := prog_8_method_3_code
def yX6_typeAt : MethodName := ⟨RX6, "typeAt", "(I)I"⟩
abbrev cX6_argumentSet : ByteArray := prog_8_method_4_code
def yX6_argumentSet : MethodName := ⟨RX6, "argumentSet", "()I"⟩
abbrev cX6_modeCount : ByteArray := prog_8_method_5_code
def yX6_modeCount : MethodName := ⟨RX6, "modeCount", "()I"⟩
abbrev cX6_modeAt : ByteArray := prog_8_method_6_code
def yX6_modeAt : MethodName := ⟨RX6, "modeAt", "(I)LModedMill$Mode;"⟩
abbrev cX6_clauseCount : ByteArray := prog_8_method_7_code
def yX6_clauseCount : MethodName := ⟨RX6, "clauseCount", "()I"⟩
abbrev cX6_clauseAt : ByteArray := prog_8_method_8_code
def yX6_clauseAt : MethodName := ⟨RX6, "clauseAt", "(I)LModedMill$Clause;"⟩
abbrev cX7_predicateCount : ByteArray := prog_9_method_2_code
def yX7_predicateCount : MethodName := ⟨RX7, "predicateCount", "()I"⟩
abbrev cX7_clauseCount : ByteArray := prog_9_method_3_code
def yX7_clauseCount : MethodName := ⟨RX7, "clauseCount", "()I"⟩
abbrev cX7_predicateAt : ByteArray := prog_9_method_4_code
def yX7_predicateAt : MethodName := ⟨RX7, "predicateAt", "(I)LModedMill$Predicate;"⟩
abbrev cX7_clauseAt : ByteArray := prog_9_method_5_code
def yX7_clauseAt : MethodName := ⟨RX7, "clauseAt", "(I)LModedMill$Clause;"⟩
abbrev cX7_modeAt : ByteArray := prog_9_method_6_code
def yX7_modeAt : MethodName := ⟨RX7, "modeAt", "(II)LModedMill$Mode;"⟩
abbrev cX7_newPredicate : ByteArray := prog_9_method_7_code
def yX7_newPredicate : MethodName := ⟨RX7, "newPredicate", "(III)I"⟩
abbrev cX7_newMode : ByteArray := prog_9_method_8_code
def yX7_newMode : MethodName := ⟨RX7, "newMode", "(LModedMill$Predicate;IC)I"⟩
abbrev cX7_newClause : ByteArray := prog_9_method_9_code
def yX7_newClause : MethodName := ⟨RX7, "newClause", "(LModedMill$Predicate;)I"⟩
abbrev cX7_faultCount : ByteArray := prog_9_method_10_code
def yX7_faultCount : MethodName := ⟨RX7, "faultCount", "()I"⟩
abbrev cX7_goodCount : ByteArray := prog_9_method_11_code
def yX7_goodCount : MethodName := ⟨RX7, "goodCount", "()I"⟩
abbrev cX7_onceCount : ByteArray := prog_9_method_12_code
def yX7_onceCount : MethodName := ⟨RX7, "onceCount", "()I"⟩
abbrev cX7_analyse : ByteArray := prog_9_method_13_code
def yX7_analyse : MethodName := ⟨RX7, "analyse", "(LModedMill$Terms;)V"⟩
abbrev cX7_putInOrder : ByteArray := prog_9_method_14_code
def yX7_putInOrder : MethodName := ⟨RX7, "putInOrder", "(LModedMill$Mode;)Z"⟩
abbrev cX7_putClauseInOrder : ByteArray := prog_9_method_15_code
def yX7_putClauseInOrder : MethodName := ⟨RX7, "putClauseInOrder", "(LModedMill$Clause;LModedMill$Mode;)Z"⟩
abbrev cX7_nextGoal : ByteArray := prog_9_method_16_code
def yX7_nextGoal : MethodName := ⟨RX7, "nextGoal", "(LModedMill$Clause;II)I"⟩
abbrev cX7_canBeTaken : ByteArray := prog_9_method_17_code
def yX7_canBeTaken : MethodName := ⟨RX7, "canBeTaken", "(LModedMill$Goal;LModedMill$Mode;I)Z"⟩
abbrev cX7_chooseMode : ByteArray := prog_9_method_18_code
def yX7_chooseMode : MethodName := ⟨RX7, "chooseMode", "(LModedMill$Goal;I)LModedMill$Mode;"⟩
abbrev cX7_areInputsKnown : ByteArray := prog_9_method_19_code
def yX7_areInputsKnown : MethodName := ⟨RX7, "areInputsKnown", "(LModedMill$Goal;LModedMill$Mode;I)Z"⟩
abbrev cX7_findSwitch : ByteArray := prog_9_method_20_code
def yX7_findSwitch : MethodName := ⟨RX7, "findSwitch", "(LModedMill$Mode;)I"⟩
abbrev cX7_spreadFaults : ByteArray := prog_9_method_21_code
def yX7_spreadFaults : MethodName := ⟨RX7, "spreadFaults", "()Z"⟩
abbrev cX7_choosesBad : ByteArray := prog_9_method_22_code
def yX7_choosesBad : MethodName := ⟨RX7, "choosesBad", "(LModedMill$Mode;)Z"⟩
abbrev cX7_spreadFound : ByteArray := prog_9_method_23_code
def yX7_spreadFound : MethodName := ⟨RX7, "spreadFound", "(LModedMill$Terms;)Z"⟩
abbrev cX7_canModeFail : ByteArray := prog_9_method_24_code
def yX7_canModeFail : MethodName := ⟨RX7, "canModeFail", "(LModedMill$Mode;LModedMill$Terms;)Z"⟩
abbrev cX7_isTypeCovered : ByteArray := prog_9_method_25_code
def yX7_isTypeCovered : MethodName := ⟨RX7, "isTypeCovered", "(LModedMill$Mode;LModedMill$Terms;)Z"⟩
abbrev cX7_canModeRepeat : ByteArray := prog_9_method_26_code
def yX7_canModeRepeat : MethodName := ⟨RX7, "canModeRepeat", "(LModedMill$Mode;)Z"⟩
abbrev cX7_canClauseRepeat : ByteArray := prog_9_method_27_code
def yX7_canClauseRepeat : MethodName := ⟨RX7, "canClauseRepeat", "(LModedMill$Clause;LModedMill$Mode;)Z"⟩
abbrev cX7_canClauseFail : ByteArray := prog_9_method_28_code
def yX7_canClauseFail : MethodName := ⟨RX7, "canClauseFail", "(LModedMill$Clause;LModedMill$Mode;)Z"⟩
abbrev cX7_canGoalFail : ByteArray := prog_9_method_29_code
def yX7_canGoalFail : MethodName := ⟨RX7, "canGoalFail", "(LModedMill$Goal;LModedMill$Mode;I)Z"⟩
abbrev cX7_clashes : ByteArray := prog_9_method_30_code
def yX7_clashes : MethodName := ⟨RX7, "clashes", "(LModedMill$Goal;LModedMill$Mode;I)Z"⟩
abbrev cX8_begin : ByteArray := prog_10_method_2_code
def yX8_begin : MethodName := ⟨RX8, "begin", "(LModedMill$Mode;III)V"⟩
abbrev cX8_inputAt : ByteArray := prog_10_method_3_code
def yX8_inputAt : MethodName := ⟨RX8, "inputAt", "(I)I"⟩
abbrev cX8_note : ByteArray := prog_10_method_4_code
def yX8_note : MethodName := ⟨RX8, "note", "(CII)V"⟩
abbrev cX8_noteCount : ByteArray := prog_10_method_5_code
def yX8_noteCount : MethodName := ⟨RX8, "noteCount", "()I"⟩
abbrev cX8_noteSign : ByteArray := prog_10_method_6_code
def yX8_noteSign : MethodName := ⟨RX8, "noteSign", "(I)C"⟩
abbrev cX8_notePlace : ByteArray := prog_10_method_7_code
def yX8_notePlace : MethodName := ⟨RX8, "notePlace", "(I)I"⟩
abbrev cX8_answerCount : ByteArray := prog_10_method_8_code
def yX8_answerCount : MethodName := ⟨RX8, "answerCount", "()I"⟩
abbrev cX8_addAnswer : ByteArray := prog_10_method_9_code
def yX8_addAnswer : MethodName := ⟨RX8, "addAnswer", "(III)V"⟩
abbrev cX8_hasAnswer : ByteArray := prog_10_method_10_code
def yX8_hasAnswer : MethodName := ⟨RX8, "hasAnswer", "(I)Z"⟩
abbrev cX8_hasArgument : ByteArray := prog_10_method_11_code
def yX8_hasArgument : MethodName := ⟨RX8, "hasArgument", "(I)Z"⟩
abbrev cX8_answerPart : ByteArray := prog_10_method_12_code
def yX8_answerPart : MethodName := ⟨RX8, "answerPart", "(II)I"⟩
abbrev cX8_countLike : ByteArray := prog_10_method_13_code
def yX8_countLike : MethodName := ⟨RX8, "countLike", "(I)I"⟩
abbrev cX10_typeCount : ByteArray := prog_12_method_2_code
def yX10_typeCount : MethodName := ⟨RX10, "typeCount", "()I"⟩
abbrev cX10_constructorCount : ByteArray := prog_12_method_3_code
def yX10_constructorCount : MethodName := ⟨RX10, "constructorCount", "()I"⟩
abbrev cX10_termCount : ByteArray := prog_12_method_4_code
def yX10_termCount : MethodName := ⟨RX10, "termCount", "()I"⟩
abbrev cX10_hasType : ByteArray := prog_12_method_5_code
def yX10_hasType : MethodName := ⟨RX10, "hasType", "(I)Z"⟩
abbrev cX10_hasConstructor : ByteArray := prog_12_method_6_code
def yX10_hasConstructor : MethodName := ⟨RX10, "hasConstructor", "(I)Z"⟩
abbrev cX10_hasTerm : ByteArray := prog_12_method_7_code
def yX10_hasTerm : MethodName := ⟨RX10, "hasTerm", "(I)Z"⟩
abbrev cX10_newType : ByteArray := prog_12_method_8_code
def yX10_newType : MethodName := ⟨RX10, "newType", "()I"⟩
abbrev cX10_newConstructor : ByteArray := prog_12_method_9_code
def yX10_newConstructor : MethodName := ⟨RX10, "newConstructor", "(III)I"⟩
abbrev cX10_typeOfHead : ByteArray := prog_12_method_10_code
def yX10_typeOfHead : MethodName := ⟨RX10, "typeOfHead", "(I)I"⟩
abbrev cX10_partType : ByteArray := prog_12_method_11_code
def yX10_partType : MethodName := ⟨RX10, "partType", "(II)I"⟩
abbrev cX10_partCount : ByteArray := prog_12_method_12_code
def yX10_partCount : MethodName := ⟨RX10, "partCount", "(I)I"⟩
abbrev cX10_headOf : ByteArray := prog_12_method_13_code
def yX10_headOf : MethodName := ⟨RX10, "headOf", "(I)I"⟩
abbrev cX10_part : ByteArray := prog_12_method_14_code
def yX10_part : MethodName := ⟨RX10, "part", "(II)I"⟩
abbrev cX10_size : ByteArray := prog_12_method_15_code
def yX10_size : MethodName := ⟨RX10, "size", "(I)J"⟩
abbrev cX10_hasParts : ByteArray := prog_12_method_16_code
def yX10_hasParts : MethodName := ⟨RX10, "hasParts", "(III)Z"⟩
abbrev cX10_fits : ByteArray := prog_12_method_17_code
def yX10_fits : MethodName := ⟨RX10, "fits", "(III)Z"⟩
abbrev cX10_fitsPart : ByteArray := prog_12_method_18_code
def yX10_fitsPart : MethodName := ⟨RX10, "fitsPart", "(III)Z"⟩
abbrev cX10_chainOf : ByteArray := prog_12_method_19_code
def yX10_chainOf : MethodName := ⟨RX10, "chainOf", "(III)I"⟩
abbrev cX10_find : ByteArray := prog_12_method_20_code
def yX10_find : MethodName := ⟨RX10, "find", "(III)I"⟩
abbrev cX10_make : ByteArray := prog_12_method_21_code
def yX10_make : MethodName := ⟨RX10, "make", "(III)I"⟩
abbrev cX10_forgetFrom : ByteArray := prog_12_method_22_code
def yX10_forgetFrom : MethodName := ⟨RX10, "forgetFrom", "(I)V"⟩
abbrev cX11_addType : ByteArray := prog_1_method_2_code
def yX11_addType : MethodName := ⟨RX11, "addType", "()I"⟩
abbrev cX11_addConstructor : ByteArray := prog_1_method_3_code
def yX11_addConstructor : MethodName := ⟨RX11, "addConstructor", "(III)I"⟩
abbrev cX11_term : ByteArray := prog_1_method_4_code
def yX11_term : MethodName := ⟨RX11, "term", "(III)I"⟩
abbrev cX11_constructorOf : ByteArray := prog_1_method_5_code
def yX11_constructorOf : MethodName := ⟨RX11, "constructorOf", "(I)I"⟩
abbrev cX11_partOf : ByteArray := prog_1_method_6_code
def yX11_partOf : MethodName := ⟨RX11, "partOf", "(II)I"⟩
abbrev cX11_sizeOf : ByteArray := prog_1_method_7_code
def yX11_sizeOf : MethodName := ⟨RX11, "sizeOf", "(I)J"⟩
abbrev cX11_addPredicate : ByteArray := prog_1_method_8_code
def yX11_addPredicate : MethodName := ⟨RX11, "addPredicate", "(III)I"⟩
abbrev cX11_addMode : ByteArray := prog_1_method_9_code
def yX11_addMode : MethodName := ⟨RX11, "addMode", "(IIC)I"⟩
abbrev cX11_addClause : ByteArray := prog_1_method_10_code
def yX11_addClause : MethodName := ⟨RX11, "addClause", "(I)I"⟩
abbrev cX11_addBuild : ByteArray := prog_1_method_11_code
def yX11_addBuild : MethodName := ⟨RX11, "addBuild", "(IIIII)I"⟩
abbrev cX11_addSame : ByteArray := prog_1_method_12_code
def yX11_addSame : MethodName := ⟨RX11, "addSame", "(III)I"⟩
abbrev cX11_addCall : ByteArray := prog_1_method_13_code
def yX11_addCall : MethodName := ⟨RX11, "addCall", "(IIIIIZ)I"⟩
abbrev cX11_compile : ByteArray := prog_1_method_14_code
def yX11_compile : MethodName := ⟨RX11, "compile", "()I"⟩
abbrev cX11_open : ByteArray := prog_1_method_15_code
def yX11_open : MethodName := ⟨RX11, "open", "()I"⟩
abbrev cX11_fault : ByteArray := prog_1_method_16_code
def yX11_fault : MethodName := ⟨RX11, "fault", "(II)C"⟩
abbrev cX11_isGood : ByteArray := prog_1_method_17_code
def yX11_isGood : MethodName := ⟨RX11, "isGood", "(II)Z"⟩
abbrev cX11_found : ByteArray := prog_1_method_18_code
def yX11_found : MethodName := ⟨RX11, "found", "(II)C"⟩
abbrev cX11_switchOf : ByteArray := prog_1_method_19_code
def yX11_switchOf : MethodName := ⟨RX11, "switchOf", "(II)I"⟩
abbrev cX11_goalAt : ByteArray := prog_1_method_20_code
def yX11_goalAt : MethodName := ⟨RX11, "goalAt", "(III)I"⟩
abbrev cX11_chosenAt : ByteArray := prog_1_method_21_code
def yX11_chosenAt : MethodName := ⟨RX11, "chosenAt", "(III)I"⟩
abbrev cX11_ask : ByteArray := prog_1_method_22_code
def yX11_ask : MethodName := ⟨RX11, "ask", "(IIIII)I"⟩
abbrev cX11_ending : ByteArray := prog_1_method_23_code
def yX11_ending : MethodName := ⟨RX11, "ending", "()C"⟩
abbrev cX11_answerAt : ByteArray := prog_1_method_24_code
def yX11_answerAt : MethodName := ⟨RX11, "answerAt", "(II)I"⟩
abbrev cX11_multiplicity : ByteArray := prog_1_method_25_code
def yX11_multiplicity : MethodName := ⟨RX11, "multiplicity", "(I)I"⟩
abbrev cX11_answersByBreadth : ByteArray := prog_1_method_26_code
def yX11_answersByBreadth : MethodName := ⟨RX11, "answersByBreadth", "()I"⟩
abbrev cX11_steps : ByteArray := prog_1_method_27_code
def yX11_steps : MethodName := ⟨RX11, "steps", "()I"⟩
abbrev cX11_choicePoints : ByteArray := prog_1_method_28_code
def yX11_choicePoints : MethodName := ⟨RX11, "choicePoints", "()I"⟩
abbrev cX11_deepest : ByteArray := prog_1_method_29_code
def yX11_deepest : MethodName := ⟨RX11, "deepest", "()I"⟩
abbrev cX11_recorded : ByteArray := prog_1_method_30_code
def yX11_recorded : MethodName := ⟨RX11, "recorded", "()I"⟩
abbrev cX11_recordAt : ByteArray := prog_1_method_31_code
def yX11_recordAt : MethodName := ⟨RX11, "recordAt", "(I)C"⟩
abbrev cX11_whereAt : ByteArray := prog_1_method_32_code
def yX11_whereAt : MethodName := ⟨RX11, "whereAt", "(I)I"⟩
abbrev cX11_terms : ByteArray := prog_1_method_33_code
def yX11_terms : MethodName := ⟨RX11, "terms", "()I"⟩
abbrev cX11_onceShare : ByteArray := prog_1_method_34_code
def yX11_onceShare : MethodName := ⟨RX11, "onceShare", "()F"⟩
abbrev cX11_meanSteps : ByteArray := prog_1_method_35_code
def yX11_meanSteps : MethodName := ⟨RX11, "meanSteps", "()D"⟩
abbrev cX11_isTypeOrNone : ByteArray := prog_1_method_36_code
def yX11_isTypeOrNone : MethodName := ⟨RX11, "isTypeOrNone", "(I)Z"⟩
abbrev cX11_isPromise : ByteArray := prog_1_method_37_code
def yX11_isPromise : MethodName := ⟨RX11, "isPromise", "(C)Z"⟩
abbrev cX11_areVariables : ByteArray := prog_1_method_38_code
def yX11_areVariables : MethodName := ⟨RX11, "areVariables", "(III)Z"⟩
abbrev cX11_pick : ByteArray := prog_1_method_39_code
def yX11_pick : MethodName := ⟨RX11, "pick", "(IIII)I"⟩
abbrev cX11_addGoal : ByteArray := prog_1_method_40_code
def yX11_addGoal : MethodName := ⟨RX11, "addGoal", "(LModedMill$Clause;LModedMill$Goal;III)I"⟩
abbrev cX11_areInputsThere : ByteArray := prog_1_method_41_code
def yX11_areInputsThere : MethodName := ⟨RX11, "areInputsThere", "(LModedMill$Mode;III)Z"⟩
abbrev cX11_doInputsFit : ByteArray := prog_1_method_42_code
def yX11_doInputsFit : MethodName := ⟨RX11, "doInputsFit", "(LModedMill$Mode;III)Z"⟩
abbrev cX11_compiledMode : ByteArray := prog_1_method_43_code
def yX11_compiledMode : MethodName := ⟨RX11, "compiledMode", "(II)LModedMill$Mode;"⟩
abbrev cX11_orderedClause : ByteArray := prog_1_method_44_code
def yX11_orderedClause : MethodName := ⟨RX11, "orderedClause", "(II)LModedMill$Clause;"⟩
abbrev cX11_refuseMissingTerm : ByteArray := prog_1_method_45_code
def yX11_refuseMissingTerm : MethodName := ⟨RX11, "refuseMissingTerm", "(I)V"⟩
abbrev cX11_refuseUncompiled : ByteArray := prog_1_method_46_code
def yX11_refuseUncompiled : MethodName := ⟨RX11, "refuseUncompiled", "()V"⟩
abbrev cX11_refuseUnasked : ByteArray := prog_1_method_47_code
def yX11_refuseUnasked : MethodName := ⟨RX11, "refuseUnasked", "()V"⟩
abbrev cX11_refuseMissingNote : ByteArray := prog_1_method_48_code
def yX11_refuseMissingNote : MethodName := ⟨RX11, "refuseMissingNote", "(I)V"⟩
abbrev wsX120 : List Cond := u_ws RX12 TX12 3
abbrev cX12_init : ByteArray := prog_15_method_1_code
def yX12_init : MethodName := ⟨RX12, "<init>", "(LModedMillModel$Node;LModedMillModel$Node;LModedMillModel$Binding;)V"⟩
abbrev wsX130 : List Cond := u_ws RX13 TX13 9
abbrev cX13_init : ByteArray := prog_16_method_1_code
def yX13_init : MethodName := ⟨RX13, "<init>", "(II[ILModedMillModel$Frame;IIILModedMillModel$Choice;)V"⟩
abbrev wsX140 : List Cond := u_ws RX14 TX14 6
abbrev cX14_init : ByteArray := prog_17_method_1_code
def yX14_init : MethodName := ⟨RX14, "<init>", "(IILModedMillModel$Frame;II)V"⟩
abbrev wsX150 : List Cond := u_ws RX15 TX15 6
abbrev cX15_init : ByteArray := prog_18_method_1_code
def yX15_init : MethodName := ⟨RX15, "<init>", "(CILModedMillModel$Node;LModedMillModel$Node;LModedMillModel$Node;LModedMillModel$Item;)V"⟩
abbrev wsX160 : List Cond := u_ws RX16 TX16 3
abbrev cX16_init : ByteArray := prog_19_method_1_code
def yX16_init : MethodName := ⟨RX16, "<init>", "(LModedMillModel$Item;LModedMillModel$Binding;)V"⟩
abbrev wsX170 : List Cond := u_ws RX17 TX17 4
abbrev cX17_init : ByteArray := prog_20_method_1_code
def yX17_init : MethodName := ⟨RX17, "<init>", "(ILModedMillModel$Node;LModedMillModel$Node;)V"⟩
def tyX18 : Nat → FieldType := fun k => match k with
  | 0 => .int
  | 1 => .boolean
  | 2 => .int
  | 3 => .int
  | 4 => .array .int
  | 5 => .array .int
  | 6 => .int
  | 7 => .array .int
  | 8 => .array .int
  | 9 => .array .long
  | 10 => .int
  | 11 => .array .int
  | 12 => .array .int
  | 13 => .array .int
  | 14 => .array .int
  | 15 => .array .char
  | 16 => .int
  | 17 => .array .int
  | 18 => .array .int
  | 19 => .array .int
  | 20 => .array .char
  | 21 => .array .int
  | 22 => .array .int
  | 23 => .array .int
  | 24 => .array .int
  | 25 => .array .int
  | 26 => .array .int
  | 27 => .array .boolean
  | 28 => .array .boolean
  | 29 => .array .boolean
  | 30 => .array .boolean
  | 31 => .array .int
  | 32 => .array .int
  | 33 => .int
  | 34 => .long
  | 35 => .boolean
  | 36 => .char
  | 37 => .int
  | 38 => .int
  | 39 => .array .int
  | 40 => .int
  | 41 => .array .int
  | 42 => .int
  | 43 => .int
  | 44 => .int
  | 45 => .int
  | 46 => .array .char
  | 47 => .array .int
  | 48 => .boolean
  | 49 => .boolean
  | 50 => .int
  | 51 => .array .int
  | 52 => .int
  | 53 => .int
  | 54 => .int
  | 55 => .int
  | 56 => .array .char
  | 57 => .array .int
  | 58 => .int
  | 59 => .array (.object "ModedMillModel$Frame")
  | 60 => .array .int
  | 61 => .object "ModedMillModel$Choice"
  | 62 => .object "ModedMillModel$Frame"
  | 63 => .int
  | 64 => .int
  | 65 => .int
  | 66 => .object "ModedMillModel$Binding"
  | 67 => .int
  | 68 => .array (.object "ModedMillModel$Node")
  | _ => .array (.object "ModedMillModel$Node")
abbrev wsX180 : List Cond := u_ws RX18 TX18 70
theorem nmX18 : ∀ a, a < 70 → ∀ b, b < 70 → a ≠ b → (TX18 a).2.1 ≠ (TX18 b).2.1 := by decide +kernel
theorem tyX18_ok : ∀ k, k < 70 → parseFieldDescriptor (TX18 k).2.2.1 = some (tyX18 k) := by decide +kernel
abbrev cX18_init : ByteArray := prog_14_method_1_code
def yX18_init : MethodName := ⟨RX18, "<init>", "()V"⟩
abbrev cX18_thrown : ByteArray := prog_14_method_2_code
def yX18_thrown : MethodName := ⟨RX18, "thrown", "()I"⟩
abbrev cX18_in : ByteArray := prog_14_method_3_code
def yX18_in : MethodName := ⟨RX18, "in", "(III)Z"⟩
abbrev cX18_fails : ByteArray := prog_14_method_4_code
def yX18_fails : MethodName := ⟨RX18, "fails", "(I)I"⟩
abbrev cX18_addType : ByteArray := prog_14_method_5_code
def yX18_addType : MethodName := ⟨RX18, "addType", "()I"⟩
abbrev cX18_addConstructor : ByteArray := prog_14_method_6_code
def yX18_addConstructor : MethodName := ⟨RX18, "addConstructor", "(III)I"⟩
abbrev cX18_parts : ByteArray := prog_14_method_7_code
def yX18_parts : MethodName := ⟨RX18, "parts", "(I)I"⟩
abbrev cX18_isTerm : ByteArray := prog_14_method_8_code
def yX18_isTerm : MethodName := ⟨RX18, "isTerm", "(I)Z"⟩
abbrev cX18_typeOfTerm : ByteArray := prog_14_method_9_code
def yX18_typeOfTerm : MethodName := ⟨RX18, "typeOfTerm", "(I)I"⟩
abbrev cX18_numbered : ByteArray := prog_14_method_10_code
def yX18_numbered : MethodName := ⟨RX18, "numbered", "(III)I"⟩
abbrev cX18_term : ByteArray := prog_14_method_11_code
def yX18_term : MethodName := ⟨RX18, "term", "(III)I"⟩
abbrev cX18_constructorOf : ByteArray := prog_14_method_12_code
def yX18_constructorOf : MethodName := ⟨RX18, "constructorOf", "(I)I"⟩
abbrev cX18_partOf : ByteArray := prog_14_method_13_code
def yX18_partOf : MethodName := ⟨RX18, "partOf", "(II)I"⟩
abbrev cX18_sizeOf : ByteArray := prog_14_method_14_code
def yX18_sizeOf : MethodName := ⟨RX18, "sizeOf", "(I)J"⟩
abbrev cX18_addPredicate : ByteArray := prog_14_method_15_code
def yX18_addPredicate : MethodName := ⟨RX18, "addPredicate", "(III)I"⟩
abbrev cX18_isPredicate : ByteArray := prog_14_method_16_code
def yX18_isPredicate : MethodName := ⟨RX18, "isPredicate", "(I)Z"⟩
abbrev cX18_addMode : ByteArray := prog_14_method_17_code
def yX18_addMode : MethodName := ⟨RX18, "addMode", "(IIC)I"⟩
abbrev cX18_addClause : ByteArray := prog_14_method_18_code
def yX18_addClause : MethodName := ⟨RX18, "addClause", "(I)I"⟩
abbrev cX18_isClause : ByteArray := prog_14_method_19_code
def yX18_isClause : MethodName := ⟨RX18, "isClause", "(I)Z"⟩
abbrev cX18_fits : ByteArray := prog_14_method_20_code
def yX18_fits : MethodName := ⟨RX18, "fits", "(II)Z"⟩
abbrev cX18_tries : ByteArray := prog_14_method_21_code
def yX18_tries : MethodName := ⟨RX18, "tries", "(I)V"⟩
abbrev cX18_adds : ByteArray := prog_14_method_22_code
def yX18_adds : MethodName := ⟨RX18, "adds", "(ICIIII)I"⟩
abbrev cX18_addBuild : ByteArray := prog_14_method_23_code
def yX18_addBuild : MethodName := ⟨RX18, "addBuild", "(IIIII)I"⟩
abbrev cX18_addSame : ByteArray := prog_14_method_24_code
def yX18_addSame : MethodName := ⟨RX18, "addSame", "(III)I"⟩
abbrev cX18_addCall : ByteArray := prog_14_method_25_code
def yX18_addCall : MethodName := ⟨RX18, "addCall", "(IIIIIZ)I"⟩
abbrev cX18_variables : ByteArray := prog_14_method_26_code
def yX18_variables : MethodName := ⟨RX18, "variables", "(I)I"⟩
abbrev cX18_chosen : ByteArray := prog_14_method_27_code
def yX18_chosen : MethodName := ⟨RX18, "chosen", "(II)I"⟩
abbrev cX18_canBeTaken : ByteArray := prog_14_method_28_code
def yX18_canBeTaken : MethodName := ⟨RX18, "canBeTaken", "(II)Z"⟩
abbrev cX18_orders : ByteArray := prog_14_method_29_code
def yX18_orders : MethodName := ⟨RX18, "orders", "(II)Z"⟩
abbrev cX18_switchFound : ByteArray := prog_14_method_31_code
def yX18_switchFound : MethodName := ⟨RX18, "switchFound", "(II)I"⟩
abbrev cX18_isMet : ByteArray := prog_14_method_32_code
def yX18_isMet : MethodName := ⟨RX18, "isMet", "(IIII)Z"⟩
abbrev cX18_goalCanFail : ByteArray := prog_14_method_33_code
def yX18_goalCanFail : MethodName := ⟨RX18, "goalCanFail", "(IIIZ)Z"⟩
abbrev cX18_outputIsMet : ByteArray := prog_14_method_34_code
def yX18_outputIsMet : MethodName := ⟨RX18, "outputIsMet", "(IIII)Z"⟩
abbrev cX18_clauseCanFail : ByteArray := prog_14_method_35_code
def yX18_clauseCanFail : MethodName := ⟨RX18, "clauseCanFail", "(IIZ)Z"⟩
abbrev cX18_clauseCanMore : ByteArray := prog_14_method_36_code
def yX18_clauseCanMore : MethodName := ⟨RX18, "clauseCanMore", "(II)Z"⟩
abbrev cX18_looksAgain : ByteArray := prog_14_method_37_code
def yX18_looksAgain : MethodName := ⟨RX18, "looksAgain", "(II)Z"⟩
abbrev cX18_hasBad : ByteArray := prog_14_method_38_code
def yX18_hasBad : MethodName := ⟨RX18, "hasBad", "(II)Z"⟩
abbrev cX18_orders_ : ByteArray := prog_14_method_39_code
def yX18_orders_ : MethodName := ⟨RX18, "orders", "()V"⟩
abbrev cX18_compile : ByteArray := prog_14_method_40_code
def yX18_compile : MethodName := ⟨RX18, "compile", "()I"⟩
abbrev cX18_faultOf : ByteArray := prog_14_method_41_code
def yX18_faultOf : MethodName := ⟨RX18, "faultOf", "(I)C"⟩
abbrev cX18_open : ByteArray := prog_14_method_42_code
def yX18_open : MethodName := ⟨RX18, "open", "()I"⟩
abbrev cX18_looks : ByteArray := prog_14_method_43_code
def yX18_looks : MethodName := ⟨RX18, "looks", "(II)Z"⟩
abbrev cX18_fault : ByteArray := prog_14_method_44_code
def yX18_fault : MethodName := ⟨RX18, "fault", "(II)C"⟩
abbrev cX18_isGood : ByteArray := prog_14_method_45_code
def yX18_isGood : MethodName := ⟨RX18, "isGood", "(II)Z"⟩
abbrev cX18_found : ByteArray := prog_14_method_46_code
def yX18_found : MethodName := ⟨RX18, "found", "(II)C"⟩
abbrev cX18_switchOf : ByteArray := prog_14_method_47_code
def yX18_switchOf : MethodName := ⟨RX18, "switchOf", "(II)I"⟩
abbrev cX18_spot : ByteArray := prog_14_method_48_code
def yX18_spot : MethodName := ⟨RX18, "spot", "(III)I"⟩
abbrev cX18_goalAt : ByteArray := prog_14_method_49_code
def yX18_goalAt : MethodName := ⟨RX18, "goalAt", "(III)I"⟩
abbrev cX18_chosenAt : ByteArray := prog_14_method_50_code
def yX18_chosenAt : MethodName := ⟨RX18, "chosenAt", "(III)I"⟩
abbrev cX18_puts : ByteArray := prog_14_method_51_code
def yX18_puts : MethodName := ⟨RX18, "puts", "(CII)V"⟩
abbrev cX18_binds : ByteArray := prog_14_method_52_code
def yX18_binds : MethodName := ⟨RX18, "binds", "(LModedMillModel$Frame;II)V"⟩
abbrev cX18_unbinds : ByteArray := prog_14_method_53_code
def yX18_unbinds : MethodName := ⟨RX18, "unbinds", "(I)V"⟩
abbrev cX18_candidate : ByteArray := prog_14_method_54_code
def yX18_candidate : MethodName := ⟨RX18, "candidate", "(II[II)I"⟩
abbrev cX18_tries_ : ByteArray := prog_14_method_55_code
def yX18_tries_ : MethodName := ⟨RX18, "tries", "(II[ILModedMillModel$Frame;II)V"⟩
abbrev cX18_calls : ByteArray := prog_14_method_56_code
def yX18_calls : MethodName := ⟨RX18, "calls", "(II[ILModedMillModel$Frame;II)Z"⟩
abbrev cX18_retries : ByteArray := prog_14_method_57_code
def yX18_retries : MethodName := ⟨RX18, "retries", "()V"⟩
abbrev cX18_gives : ByteArray := prog_14_method_58_code
def yX18_gives : MethodName := ⟨RX18, "gives", "(LModedMillModel$Frame;II)Z"⟩
abbrev cX18_arguments : ByteArray := prog_14_method_59_code
def yX18_arguments : MethodName := ⟨RX18, "arguments", "(LModedMillModel$Frame;I)[I"⟩
abbrev cX18_isWanted : ByteArray := prog_14_method_60_code
def yX18_isWanted : MethodName := ⟨RX18, "isWanted", "(LModedMillModel$Frame;[I)Z"⟩
abbrev cX18_handsOver : ByteArray := prog_14_method_61_code
def yX18_handsOver : MethodName := ⟨RX18, "handsOver", "()Z"⟩
abbrev cX18_answers : ByteArray := prog_14_method_62_code
def yX18_answers : MethodName := ⟨RX18, "answers", "()V"⟩
abbrev cX18_builds : ByteArray := prog_14_method_63_code
def yX18_builds : MethodName := ⟨RX18, "builds", "(I)Z"⟩
abbrev cX18_sames : ByteArray := prog_14_method_64_code
def yX18_sames : MethodName := ⟨RX18, "sames", "(I)Z"⟩
abbrev cX18_begins : ByteArray := prog_14_method_65_code
def yX18_begins : MethodName := ⟨RX18, "begins", "()Z"⟩
abbrev cX18_denied : ByteArray := prog_14_method_66_code
def yX18_denied : MethodName := ⟨RX18, "denied", "(II)Z"⟩
abbrev cX18_runs : ByteArray := prog_14_method_67_code
def yX18_runs : MethodName := ⟨RX18, "runs", "(II[II[I)Z"⟩
abbrev cX18_isInput : ByteArray := prog_14_method_68_code
def yX18_isInput : MethodName := ⟨RX18, "isInput", "(III)Z"⟩
abbrev cX18_ask : ByteArray := prog_14_method_69_code
def yX18_ask : MethodName := ⟨RX18, "ask", "(IIIII)I"⟩
abbrev cX18_wasAsked : ByteArray := prog_14_method_70_code
def yX18_wasAsked : MethodName := ⟨RX18, "wasAsked", "()Z"⟩
abbrev cX18_ending : ByteArray := prog_14_method_71_code
def yX18_ending : MethodName := ⟨RX18, "ending", "()C"⟩
abbrev cX18_answerAt : ByteArray := prog_14_method_72_code
def yX18_answerAt : MethodName := ⟨RX18, "answerAt", "(II)I"⟩
abbrev cX18_multiplicity : ByteArray := prog_14_method_73_code
def yX18_multiplicity : MethodName := ⟨RX18, "multiplicity", "(I)I"⟩
abbrev cX18_steps : ByteArray := prog_14_method_74_code
def yX18_steps : MethodName := ⟨RX18, "steps", "()I"⟩
abbrev cX18_choicePoints : ByteArray := prog_14_method_75_code
def yX18_choicePoints : MethodName := ⟨RX18, "choicePoints", "()I"⟩
abbrev cX18_deepest : ByteArray := prog_14_method_76_code
def yX18_deepest : MethodName := ⟨RX18, "deepest", "()I"⟩
abbrev cX18_recorded : ByteArray := prog_14_method_77_code
def yX18_recorded : MethodName := ⟨RX18, "recorded", "()I"⟩
abbrev cX18_recordAt : ByteArray := prog_14_method_78_code
def yX18_recordAt : MethodName := ⟨RX18, "recordAt", "(I)C"⟩
abbrev cX18_whereAt : ByteArray := prog_14_method_79_code
def yX18_whereAt : MethodName := ⟨RX18, "whereAt", "(I)I"⟩
abbrev cX18_terms : ByteArray := prog_14_method_80_code
def yX18_terms : MethodName := ⟨RX18, "terms", "()I"⟩
abbrev cX18_onceShare : ByteArray := prog_14_method_81_code
def yX18_onceShare : MethodName := ⟨RX18, "onceShare", "()F"⟩
abbrev cX18_meanSteps : ByteArray := prog_14_method_82_code
def yX18_meanSteps : MethodName := ⟨RX18, "meanSteps", "()D"⟩
abbrev cX18_value : ByteArray := prog_14_method_83_code
def yX18_value : MethodName := ⟨RX18, "value", "(LModedMillModel$Node;LModedMillModel$Binding;)LModedMillModel$Node;"⟩
abbrev cX18_has : ByteArray := prog_14_method_84_code
def yX18_has : MethodName := ⟨RX18, "has", "(LModedMillModel$Node;LModedMillModel$Node;LModedMillModel$Binding;)Z"⟩
abbrev cX18_wasPaired : ByteArray := prog_14_method_85_code
def yX18_wasPaired : MethodName := ⟨RX18, "wasPaired", "(LModedMillModel$Node;LModedMillModel$Node;)Z"⟩
abbrev cX18_equal : ByteArray := prog_14_method_86_code
def yX18_equal : MethodName := ⟨RX18, "equal", "(LModedMillModel$Node;LModedMillModel$Node;)Z"⟩
abbrev cX18_isUnknown : ByteArray := prog_14_method_87_code
def yX18_isUnknown : MethodName := ⟨RX18, "isUnknown", "(LModedMillModel$Item;LModedMillModel$Binding;)Z"⟩
abbrev cX18_without : ByteArray := prog_14_method_88_code
def yX18_without : MethodName := ⟨RX18, "without", "(LModedMillModel$Item;LModedMillModel$Item;)LModedMillModel$Item;"⟩
abbrev cX18_goalsOf : ByteArray := prog_14_method_89_code
def yX18_goalsOf : MethodName := ⟨RX18, "goalsOf", "(II[LModedMillModel$Node;LModedMillModel$Item;)LModedMillModel$Item;"⟩
abbrev cX18_clauseFor : ByteArray := prog_14_method_90_code
def yX18_clauseFor : MethodName := ⟨RX18, "clauseFor", "(LModedMillModel$Item;ILModedMillModel$Item;)LModedMillModel$Item;"⟩
abbrev cX18_breadth : ByteArray := prog_14_method_91_code
def yX18_breadth : MethodName := ⟨RX18, "breadth", "(LModedMillModel$Listed;Z)I"⟩
abbrev cX18_resolves : ByteArray := prog_14_method_92_code
def yX18_resolves : MethodName := ⟨RX18, "resolves", "(LModedMillModel$Item;LModedMillModel$Binding;)I"⟩
abbrev cX18_answersByBreadth : ByteArray := prog_14_method_93_code
def yX18_answersByBreadth : MethodName := ⟨RX18, "answersByBreadth", "()I"⟩
abbrev cJx4a65c_grow_92f84 : ByteArray := prog_49_method_6_code
def yJx4a65c_grow_92f84 : MethodName := ⟨RJx4a65c, "grow", "(I)[Ljava/lang/Object;"⟩
abbrev cJx4a65c_grow_d5877 : ByteArray := prog_49_method_7_code
def yJx4a65c_grow_d5877 : MethodName := ⟨RJx4a65c, "grow", "()[Ljava/lang/Object;"⟩
abbrev cJx4a65c_size_8abf5 : ByteArray := prog_49_method_8_code
def yJx4a65c_size_8abf5 : MethodName := ⟨RJx4a65c, "size", "()I"⟩
abbrev cJx4a65c_elementData_915e3 : ByteArray := prog_49_method_18_code
def yJx4a65c_elementData_915e3 : MethodName := ⟨RJx4a65c, "elementData", "(I)Ljava/lang/Object;"⟩
abbrev cJx4a65c_get_915e3 : ByteArray := prog_49_method_20_code
def yJx4a65c_get_915e3 : MethodName := ⟨RJx4a65c, "get", "(I)Ljava/lang/Object;"⟩
abbrev cJx4a65c_add_72be8 : ByteArray := prog_49_method_24_code
def yJx4a65c_add_72be8 : MethodName := ⟨RJx4a65c, "add", "(Ljava/lang/Object;[Ljava/lang/Object;I)V"⟩
abbrev cJx4a65c_add_9ea2d : ByteArray := prog_49_method_25_code
def yJx4a65c_add_9ea2d : MethodName := ⟨RJx4a65c, "add", "(Ljava/lang/Object;)Z"⟩
abbrev cJ7_fill_53178 : ByteArray := prog_50_method_103_code
def yJ7_fill_53178 : MethodName := ⟨RJ7, "fill", "([II)V"⟩
abbrev cJ7_copyOf_1904c : ByteArray := prog_50_method_119_code
def yJ7_copyOf_1904c : MethodName := ⟨RJ7, "copyOf", "([Ljava/lang/Object;I)[Ljava/lang/Object;"⟩
abbrev cJ7_copyOf_6403c : ByteArray := prog_50_method_120_code
def yJ7_copyOf_6403c : MethodName := ⟨RJ7, "copyOf", "([Ljava/lang/Object;ILjava/lang/Class;)[Ljava/lang/Object;"⟩
def RJ15 : String := "java/util/Objects"
abbrev cJ15_checkIndex_7cf53 : ByteArray := prog_54_method_17_code
def yJ15_checkIndex_7cf53 : MethodName := ⟨RJ15, "checkIndex", "(II)I"⟩
def RJ8 : String := "jdk/internal/util/ArraysSupport"
abbrev cJ8_newLength_cabcc : ByteArray := prog_57_method_27_code
def yJ8_newLength_cabcc : MethodName := ⟨RJ8, "newLength", "(III)I"⟩
abbrev cJ8_hugeLength_7cf53 : ByteArray := prog_57_method_28_code
def yJ8_hugeLength_7cf53 : MethodName := ⟨RJ8, "hugeLength", "(II)I"⟩
def RJ3 : String := "jdk/internal/util/Preconditions"
abbrev cJ3_checkIndex_8e157 : ByteArray := prog_58_method_11_code
def yJ3_checkIndex_8e157 : MethodName := ⟨RJ3, "checkIndex", "(IILjava/util/function/BiFunction;)I"⟩
def wsX10_termCount : List Cond := .code yX10_termCount cX10_termCount 1 (some .int) :: ([.fieldLink RX10 24 "ModedMill$Terms" "numbered" "LModedMill$Table;", .methodLink RX10 38 yX9_count, .instanceMethod yX9_count, .selects RX9 yX9_count yX9_count, .initialized RX9, .code yX9_count cX9_count 1 (some .int), .fieldLink RX9 20 "ModedMill$Table" "lines" "I"] ++ wsX100 ++ wsX90)
def wsJx4a65c_size_8abf5 : List Cond := .code yJx4a65c_size_8abf5 cJx4a65c_size_8abf5 1 (some .int) :: ([.fieldLink RJx4a65c 48 "java/util/ArrayList" "size" "I"] ++ wsJx4a65c0)
def wsX7_predicateAt_r1 : List Cond := [Cond.fieldLink RX7 12 "ModedMill$Program" "predicates" "Ljava/util/ArrayList;", Cond.classLink RX7 32 "ModedMill$Predicate", Cond.methodLink RX7 24 yJx4a65c_size_8abf5, Cond.instanceMethod yJx4a65c_size_8abf5, Cond.selects RJx4a65c yJx4a65c_size_8abf5 yJx4a65c_size_8abf5, Cond.initialized RJx4a65c, Cond.code yJx4a65c_size_8abf5 cJx4a65c_size_8abf5 1 (some .int), Cond.fieldLink RJx4a65c 48 "java/util/ArrayList" "size" "I", Cond.methodLink RX7 28 yJx4a65c_get_915e3, Cond.instanceMethod yJx4a65c_get_915e3, Cond.selects RJx4a65c yJx4a65c_get_915e3 yJx4a65c_get_915e3, Cond.code yJx4a65c_get_915e3 cJx4a65c_get_915e3 2 (some (.object "java/lang/Object")), Cond.methodLink RJx4a65c 118 yJ15_checkIndex_7cf53, Cond.static yJ15_checkIndex_7cf53, Cond.initialized RJ15, Cond.code yJ15_checkIndex_7cf53 cJ15_checkIndex_7cf53 2 (some .int), Cond.methodLink RJ15 105 yJ3_checkIndex_8e157, Cond.static yJ3_checkIndex_8e157, Cond.initialized RJ3, Cond.code yJ3_checkIndex_8e157 cJ3_checkIndex_8e157 3 (some .int), Cond.methodLink RJx4a65c 123 yJx4a65c_elementData_915e3, Cond.instanceMethod yJx4a65c_elementData_915e3, Cond.selects RJx4a65c yJx4a65c_elementData_915e3 yJx4a65c_elementData_915e3, Cond.code yJx4a65c_elementData_915e3 cJx4a65c_elementData_915e3 2 (some (.object "java/lang/Object"))]
def wsX7_predicateAt_r2 : List Cond := [Cond.fieldLink RJx4a65c 9 "java/util/ArrayList" "elementData" "[Ljava/lang/Object;"]
def wsX7_predicateAt : List Cond := .code yX7_predicateAt cX7_predicateAt 2 (some (.object "ModedMill$Predicate")) :: ((wsX7_predicateAt_r1 ++ wsX7_predicateAt_r2) ++ wsX70 ++ wsJx4a65c0)
def wsX7_clauseAt_r1 : List Cond := [Cond.fieldLink RX7 21 "ModedMill$Program" "clauses" "Ljava/util/ArrayList;", Cond.classLink RX7 34 "ModedMill$Clause", Cond.methodLink RX7 24 yJx4a65c_size_8abf5, Cond.instanceMethod yJx4a65c_size_8abf5, Cond.selects RJx4a65c yJx4a65c_size_8abf5 yJx4a65c_size_8abf5, Cond.initialized RJx4a65c, Cond.code yJx4a65c_size_8abf5 cJx4a65c_size_8abf5 1 (some .int), Cond.fieldLink RJx4a65c 48 "java/util/ArrayList" "size" "I", Cond.methodLink RX7 28 yJx4a65c_get_915e3, Cond.instanceMethod yJx4a65c_get_915e3, Cond.selects RJx4a65c yJx4a65c_get_915e3 yJx4a65c_get_915e3, Cond.code yJx4a65c_get_915e3 cJx4a65c_get_915e3 2 (some (.object "java/lang/Object")), Cond.methodLink RJx4a65c 118 yJ15_checkIndex_7cf53, Cond.static yJ15_checkIndex_7cf53, Cond.initialized RJ15, Cond.code yJ15_checkIndex_7cf53 cJ15_checkIndex_7cf53 2 (some .int), Cond.methodLink RJ15 105 yJ3_checkIndex_8e157, Cond.static yJ3_checkIndex_8e157, Cond.initialized RJ3, Cond.code yJ3_checkIndex_8e157 cJ3_checkIndex_8e157 3 (some .int), Cond.methodLink RJx4a65c 123 yJx4a65c_elementData_915e3, Cond.instanceMethod yJx4a65c_elementData_915e3, Cond.selects RJx4a65c yJx4a65c_elementData_915e3 yJx4a65c_elementData_915e3, Cond.code yJx4a65c_elementData_915e3 cJx4a65c_elementData_915e3 2 (some (.object "java/lang/Object"))]
def wsX7_clauseAt_r2 : List Cond := [Cond.fieldLink RJx4a65c 9 "java/util/ArrayList" "elementData" "[Ljava/lang/Object;"]
def wsX7_clauseAt : List Cond := .code yX7_clauseAt cX7_clauseAt 2 (some (.object "ModedMill$Clause")) :: ((wsX7_clauseAt_r1 ++ wsX7_clauseAt_r2) ++ wsX70 ++ wsJx4a65c0)
def wsX11_pick : List Cond := .code yX11_pick cX11_pick 4 (some .int) :: ([])
def wsJx4a65c_grow_92f84_r1 : List Cond := [Cond.fieldLink RJx4a65c 9 "java/util/ArrayList" "elementData" "[Ljava/lang/Object;", Cond.fieldLink RJx4a65c 39 "java/util/ArrayList" "DEFAULTCAPACITY_EMPTY_ELEMENTDATA" "[Ljava/lang/Object;", Cond.methodLink RJx4a65c 79 Lib.Math.max.name, Cond.static Lib.Math.max.name, Cond.initialized "java/lang/Math", Cond.code Lib.Math.max.name Lib.Math.max.code 2 (some .int), Cond.classLink RJx4a65c 7 "java/lang/Object", Cond.methodLink RJx4a65c 73 yJ8_newLength_cabcc, Cond.static yJ8_newLength_cabcc, Cond.initialized RJ8, Cond.code yJ8_newLength_cabcc cJ8_newLength_cabcc 4 (some .int), Cond.methodLink RJ8 194 Lib.Math.max.name, Cond.constant RJ8 200 (2147483639), Cond.methodLink RJ8 201 yJ8_hugeLength_7cf53, Cond.static yJ8_hugeLength_7cf53, Cond.code yJ8_hugeLength_7cf53 cJ8_hugeLength_7cf53 3 (some .int), Cond.methodLink RJx4a65c 66 yJ7_copyOf_1904c, Cond.static yJ7_copyOf_1904c, Cond.initialized RJ7, Cond.code yJ7_copyOf_1904c cJ7_copyOf_1904c 2 (some (.array (.object "java/lang/Object"))), Cond.methodLink RJ7 86 ⟨"java/lang/Object", "getClass", "()Ljava/lang/Class;"⟩, Cond.selects "[Ljava/lang/Object;" ⟨"java/lang/Object", "getClass", "()Ljava/lang/Class;"⟩ ⟨"java/lang/Object", "getClass", "()Ljava/lang/Class;"⟩, Cond.instanceMethod ⟨"java/lang/Object", "getClass", "()Ljava/lang/Class;"⟩, Cond.native ⟨"java/lang/Object", "getClass", "()Ljava/lang/Class;"⟩]
def wsJx4a65c_grow_92f84_r2 : List Cond := [Cond.methodLink RJ7 300 yJ7_copyOf_6403c, Cond.static yJ7_copyOf_6403c, Cond.code yJ7_copyOf_6403c cJ7_copyOf_6403c 4 (some (.array (.object "java/lang/Object"))), Cond.classLink RJ7 110 "[Ljava/lang/Object;", Cond.classLink RJ7 2 "java/lang/Object", Cond.methodLink RJ7 304 Lib.Math.min.name, Cond.static Lib.Math.min.name, Cond.code Lib.Math.min.name Lib.Math.min.code 2 (some .int), Cond.methodLink RJ7 150 arraycopyName, Cond.native arraycopyName, Cond.static arraycopyName, Cond.initialized "java/lang/System"]
def wsJx4a65c_grow_92f84 : List Cond := .code yJx4a65c_grow_92f84 cJx4a65c_grow_92f84 4 (some (.array (.object "java/lang/Object"))) :: ((wsJx4a65c_grow_92f84_r1 ++ wsJx4a65c_grow_92f84_r2) ++ wsJx4a65c0)
def wsJx4a65c_grow_d5877_r1 : List Cond := [Cond.fieldLink RJx4a65c 48 "java/util/ArrayList" "size" "I", Cond.methodLink RJx4a65c 69 yJx4a65c_grow_92f84, Cond.instanceMethod yJx4a65c_grow_92f84, Cond.selects RJx4a65c yJx4a65c_grow_92f84 yJx4a65c_grow_92f84, Cond.initialized RJx4a65c, Cond.code yJx4a65c_grow_92f84 cJx4a65c_grow_92f84 4 (some (.array (.object "java/lang/Object"))), Cond.fieldLink RJx4a65c 9 "java/util/ArrayList" "elementData" "[Ljava/lang/Object;", Cond.fieldLink RJx4a65c 39 "java/util/ArrayList" "DEFAULTCAPACITY_EMPTY_ELEMENTDATA" "[Ljava/lang/Object;", Cond.methodLink RJx4a65c 79 Lib.Math.max.name, Cond.static Lib.Math.max.name, Cond.initialized "java/lang/Math", Cond.code Lib.Math.max.name Lib.Math.max.code 2 (some .int), Cond.classLink RJx4a65c 7 "java/lang/Object", Cond.methodLink RJx4a65c 73 yJ8_newLength_cabcc, Cond.static yJ8_newLength_cabcc, Cond.initialized RJ8, Cond.code yJ8_newLength_cabcc cJ8_newLength_cabcc 4 (some .int), Cond.methodLink RJ8 194 Lib.Math.max.name, Cond.constant RJ8 200 (2147483639), Cond.methodLink RJ8 201 yJ8_hugeLength_7cf53, Cond.static yJ8_hugeLength_7cf53, Cond.code yJ8_hugeLength_7cf53 cJ8_hugeLength_7cf53 3 (some .int), Cond.methodLink RJx4a65c 66 yJ7_copyOf_1904c, Cond.static yJ7_copyOf_1904c]
def wsJx4a65c_grow_d5877_r2 : List Cond := [Cond.initialized RJ7, Cond.code yJ7_copyOf_1904c cJ7_copyOf_1904c 2 (some (.array (.object "java/lang/Object"))), Cond.methodLink RJ7 86 ⟨"java/lang/Object", "getClass", "()Ljava/lang/Class;"⟩, Cond.selects "[Ljava/lang/Object;" ⟨"java/lang/Object", "getClass", "()Ljava/lang/Class;"⟩ ⟨"java/lang/Object", "getClass", "()Ljava/lang/Class;"⟩, Cond.instanceMethod ⟨"java/lang/Object", "getClass", "()Ljava/lang/Class;"⟩, Cond.native ⟨"java/lang/Object", "getClass", "()Ljava/lang/Class;"⟩, Cond.methodLink RJ7 300 yJ7_copyOf_6403c, Cond.static yJ7_copyOf_6403c, Cond.code yJ7_copyOf_6403c cJ7_copyOf_6403c 4 (some (.array (.object "java/lang/Object"))), Cond.classLink RJ7 110 "[Ljava/lang/Object;", Cond.classLink RJ7 2 "java/lang/Object", Cond.methodLink RJ7 304 Lib.Math.min.name, Cond.static Lib.Math.min.name, Cond.code Lib.Math.min.name Lib.Math.min.code 2 (some .int), Cond.methodLink RJ7 150 arraycopyName, Cond.native arraycopyName, Cond.static arraycopyName, Cond.initialized "java/lang/System"]
def wsJx4a65c_grow_d5877 : List Cond := .code yJx4a65c_grow_d5877 cJx4a65c_grow_d5877 1 (some (.array (.object "java/lang/Object"))) :: ((wsJx4a65c_grow_d5877_r1 ++ wsJx4a65c_grow_d5877_r2) ++ wsJx4a65c0)
def wsJx4a65c_add_72be8_r1 : List Cond := [Cond.fieldLink RJx4a65c 48 "java/util/ArrayList" "size" "I", Cond.methodLink RJx4a65c 129 yJx4a65c_grow_d5877, Cond.instanceMethod yJx4a65c_grow_d5877, Cond.selects RJx4a65c yJx4a65c_grow_d5877 yJx4a65c_grow_d5877, Cond.initialized RJx4a65c, Cond.code yJx4a65c_grow_d5877 cJx4a65c_grow_d5877 1 (some (.array (.object "java/lang/Object"))), Cond.methodLink RJx4a65c 69 yJx4a65c_grow_92f84, Cond.instanceMethod yJx4a65c_grow_92f84, Cond.selects RJx4a65c yJx4a65c_grow_92f84 yJx4a65c_grow_92f84, Cond.code yJx4a65c_grow_92f84 cJx4a65c_grow_92f84 4 (some (.array (.object "java/lang/Object"))), Cond.fieldLink RJx4a65c 9 "java/util/ArrayList" "elementData" "[Ljava/lang/Object;", Cond.fieldLink RJx4a65c 39 "java/util/ArrayList" "DEFAULTCAPACITY_EMPTY_ELEMENTDATA" "[Ljava/lang/Object;", Cond.methodLink RJx4a65c 79 Lib.Math.max.name, Cond.static Lib.Math.max.name, Cond.initialized "java/lang/Math", Cond.code Lib.Math.max.name Lib.Math.max.code 2 (some .int), Cond.classLink RJx4a65c 7 "java/lang/Object", Cond.methodLink RJx4a65c 73 yJ8_newLength_cabcc, Cond.static yJ8_newLength_cabcc, Cond.initialized RJ8, Cond.code yJ8_newLength_cabcc cJ8_newLength_cabcc 4 (some .int), Cond.methodLink RJ8 194 Lib.Math.max.name, Cond.constant RJ8 200 (2147483639), Cond.methodLink RJ8 201 yJ8_hugeLength_7cf53]
def wsJx4a65c_add_72be8_r2 : List Cond := [Cond.static yJ8_hugeLength_7cf53, Cond.code yJ8_hugeLength_7cf53 cJ8_hugeLength_7cf53 3 (some .int), Cond.methodLink RJx4a65c 66 yJ7_copyOf_1904c, Cond.static yJ7_copyOf_1904c, Cond.initialized RJ7, Cond.code yJ7_copyOf_1904c cJ7_copyOf_1904c 2 (some (.array (.object "java/lang/Object"))), Cond.methodLink RJ7 86 ⟨"java/lang/Object", "getClass", "()Ljava/lang/Class;"⟩, Cond.selects "[Ljava/lang/Object;" ⟨"java/lang/Object", "getClass", "()Ljava/lang/Class;"⟩ ⟨"java/lang/Object", "getClass", "()Ljava/lang/Class;"⟩, Cond.instanceMethod ⟨"java/lang/Object", "getClass", "()Ljava/lang/Class;"⟩, Cond.native ⟨"java/lang/Object", "getClass", "()Ljava/lang/Class;"⟩, Cond.methodLink RJ7 300 yJ7_copyOf_6403c, Cond.static yJ7_copyOf_6403c, Cond.code yJ7_copyOf_6403c cJ7_copyOf_6403c 4 (some (.array (.object "java/lang/Object"))), Cond.classLink RJ7 110 "[Ljava/lang/Object;", Cond.classLink RJ7 2 "java/lang/Object", Cond.methodLink RJ7 304 Lib.Math.min.name, Cond.static Lib.Math.min.name, Cond.code Lib.Math.min.name Lib.Math.min.code 2 (some .int), Cond.methodLink RJ7 150 arraycopyName, Cond.native arraycopyName, Cond.static arraycopyName, Cond.initialized "java/lang/System"]
def wsJx4a65c_add_72be8 : List Cond := .code yJx4a65c_add_72be8 cJx4a65c_add_72be8 4 none :: ((wsJx4a65c_add_72be8_r1 ++ wsJx4a65c_add_72be8_r2) ++ wsJx4a65c0)
def wsJx4a65c_add_9ea2d_r1 : List Cond := [Cond.fieldLink RJx4a65c 63 "java/util/ArrayList" "modCount" "I", Cond.sameField "java/util/ArrayList" "java/util/AbstractList" "modCount" "I", Cond.fieldLink RJx4a65c 9 "java/util/ArrayList" "elementData" "[Ljava/lang/Object;", Cond.fieldLink RJx4a65c 48 "java/util/ArrayList" "size" "I", Cond.methodLink RJx4a65c 131 yJx4a65c_add_72be8, Cond.instanceMethod yJx4a65c_add_72be8, Cond.selects RJx4a65c yJx4a65c_add_72be8 yJx4a65c_add_72be8, Cond.initialized RJx4a65c, Cond.code yJx4a65c_add_72be8 cJx4a65c_add_72be8 4 none, Cond.methodLink RJx4a65c 129 yJx4a65c_grow_d5877, Cond.instanceMethod yJx4a65c_grow_d5877, Cond.selects RJx4a65c yJx4a65c_grow_d5877 yJx4a65c_grow_d5877, Cond.code yJx4a65c_grow_d5877 cJx4a65c_grow_d5877 1 (some (.array (.object "java/lang/Object"))), Cond.methodLink RJx4a65c 69 yJx4a65c_grow_92f84, Cond.instanceMethod yJx4a65c_grow_92f84, Cond.selects RJx4a65c yJx4a65c_grow_92f84 yJx4a65c_grow_92f84, Cond.code yJx4a65c_grow_92f84 cJx4a65c_grow_92f84 4 (some (.array (.object "java/lang/Object"))), Cond.fieldLink RJx4a65c 39 "java/util/ArrayList" "DEFAULTCAPACITY_EMPTY_ELEMENTDATA" "[Ljava/lang/Object;", Cond.methodLink RJx4a65c 79 Lib.Math.max.name, Cond.static Lib.Math.max.name, Cond.initialized "java/lang/Math", Cond.code Lib.Math.max.name Lib.Math.max.code 2 (some .int), Cond.classLink RJx4a65c 7 "java/lang/Object", Cond.methodLink RJx4a65c 73 yJ8_newLength_cabcc]
def wsJx4a65c_add_9ea2d_r2 : List Cond := [Cond.static yJ8_newLength_cabcc, Cond.initialized RJ8, Cond.code yJ8_newLength_cabcc cJ8_newLength_cabcc 4 (some .int), Cond.methodLink RJ8 194 Lib.Math.max.name, Cond.constant RJ8 200 (2147483639), Cond.methodLink RJ8 201 yJ8_hugeLength_7cf53, Cond.static yJ8_hugeLength_7cf53, Cond.code yJ8_hugeLength_7cf53 cJ8_hugeLength_7cf53 3 (some .int), Cond.methodLink RJx4a65c 66 yJ7_copyOf_1904c, Cond.static yJ7_copyOf_1904c, Cond.initialized RJ7, Cond.code yJ7_copyOf_1904c cJ7_copyOf_1904c 2 (some (.array (.object "java/lang/Object"))), Cond.methodLink RJ7 86 ⟨"java/lang/Object", "getClass", "()Ljava/lang/Class;"⟩, Cond.selects "[Ljava/lang/Object;" ⟨"java/lang/Object", "getClass", "()Ljava/lang/Class;"⟩ ⟨"java/lang/Object", "getClass", "()Ljava/lang/Class;"⟩, Cond.instanceMethod ⟨"java/lang/Object", "getClass", "()Ljava/lang/Class;"⟩, Cond.native ⟨"java/lang/Object", "getClass", "()Ljava/lang/Class;"⟩, Cond.methodLink RJ7 300 yJ7_copyOf_6403c, Cond.static yJ7_copyOf_6403c, Cond.code yJ7_copyOf_6403c cJ7_copyOf_6403c 4 (some (.array (.object "java/lang/Object"))), Cond.classLink RJ7 110 "[Ljava/lang/Object;", Cond.classLink RJ7 2 "java/lang/Object", Cond.methodLink RJ7 304 Lib.Math.min.name, Cond.static Lib.Math.min.name, Cond.code Lib.Math.min.name Lib.Math.min.code 2 (some .int)]
def wsJx4a65c_add_9ea2d_r3 : List Cond := [Cond.methodLink RJ7 150 arraycopyName, Cond.native arraycopyName, Cond.static arraycopyName, Cond.initialized "java/lang/System"]
def wsJx4a65c_add_9ea2d : List Cond := .code yJx4a65c_add_9ea2d cJx4a65c_add_9ea2d 2 (some .boolean) :: ((wsJx4a65c_add_9ea2d_r1 ++ (wsJx4a65c_add_9ea2d_r2 ++ wsJx4a65c_add_9ea2d_r3)) ++ wsJx4a65c0)
def wsX3_init : List Cond := .code yX3_init cX3_init 7 none :: ([.methodLink RX3 3 objectInit, .instanceMethod objectInit, .code objectInit ⟨#[0xb1]⟩ 1 none, .fieldLink RX3 9 "ModedMill$Goal" "kind" "I", .fieldLink RX3 15 "ModedMill$Goal" "subject" "I", .fieldLink RX3 18 "ModedMill$Goal" "count" "I", .arrayClass .int, .fieldLink RX3 21 "ModedMill$Goal" "variables" "[I"] ++ wsX30 ++ (vx_atM "java/lang/ArrayIndexOutOfBoundsException" ["java/lang/IndexOutOfBoundsException", "java/lang/RuntimeException", "java/lang/Exception"]).filter goodWord)
def wsX6_init_r1 : List Cond := [Cond.methodLink RX6 3 objectInit, Cond.instanceMethod objectInit, Cond.code objectInit ⟨#[0xb1]⟩ 1 none, Cond.fieldLink RX6 9 "ModedMill$Predicate" "number" "I", Cond.classLink RX6 15 RX9, Cond.instantiable RX9 3, Cond.initialized RX9, Cond.fieldLink RX6 20 "ModedMill$Predicate" "types" "LModedMill$Table;", Cond.classLink RX6 32 RJx4a65c, Cond.instantiable RJx4a65c 3, Cond.initialized RJx4a65c, Cond.fieldLink RX6 35 "ModedMill$Predicate" "modes" "Ljava/util/ArrayList;", Cond.fieldLink RX6 39 "ModedMill$Predicate" "clauses" "Ljava/util/ArrayList;", Cond.classLink RX6 42 RX3, Cond.instantiable RX3 4, Cond.initialized RX3, Cond.fieldLink RX6 47 "ModedMill$Predicate" "question" "LModedMill$Goal;", Cond.methodLink RX6 17 yX9_init, Cond.instanceMethod yX9_init, Cond.code yX9_init cX9_init 3 none, Cond.methodLink RX9 3 objectInit, Cond.fieldLink RX9 9 "ModedMill$Table" "columns" "I", Cond.constant RX9 15 (1000000), Cond.arrayClass .int]
def wsX6_init_r2 : List Cond := [Cond.fieldLink RX9 16 "ModedMill$Table" "cells" "[I", Cond.fieldLink RX9 20 "ModedMill$Table" "lines" "I", Cond.static yX11_pick, Cond.initialized RX11, Cond.code yX11_pick cX11_pick 4 (some .int), Cond.methodLink RX6 28 yX9_add, Cond.instanceMethod yX9_add, Cond.selects RX9 yX9_add yX9_add, Cond.code yX9_add cX9_add 6 (some .int), Cond.methodLink RX9 23 yJ7_copyOf_59c91, Cond.static yJ7_copyOf_59c91, Cond.initialized RJ7, Cond.code yJ7_copyOf_59c91 cJ7_copyOf_59c91 3 (some (.array .int)), Cond.methodLink RJ7 316 ⟨"[I", "clone", "()Ljava/lang/Object;"⟩, Cond.sameMethod "[I" "java/lang/Object" "clone" "()Ljava/lang/Object;", Cond.native ⟨"java/lang/Object", "clone", "()Ljava/lang/Object;"⟩, Cond.instanceMethod ⟨"java/lang/Object", "clone", "()Ljava/lang/Object;"⟩, Cond.selects "[I" ⟨"[I", "clone", "()Ljava/lang/Object;"⟩ ⟨"java/lang/Object", "clone", "()Ljava/lang/Object;"⟩, Cond.classLink RJ7 317 "[I", Cond.methodLink RJ7 304 Lib.Math.min.name, Cond.static Lib.Math.min.name, Cond.initialized "java/lang/Math", Cond.code Lib.Math.min.name Lib.Math.min.code 2 (some .int), Cond.methodLink RJ7 150 arraycopyName]
def wsX6_init_r3 : List Cond := [Cond.native arraycopyName, Cond.static arraycopyName, Cond.initialized "java/lang/System", Cond.methodLink RX9 29 yJ7_fill_fda19, Cond.static yJ7_fill_fda19, Cond.code yJ7_fill_fda19 cJ7_fill_fda19 5 none, Cond.methodLink RJ7 13 yJ7_rangeCheck_23922, Cond.static yJ7_rangeCheck_23922, Cond.code yJ7_rangeCheck_23922 cJ7_rangeCheck_23922 3 none, Cond.classLink RJ7 45 RJ4, Cond.instantiable RJ4 4, Cond.initialized RJ4, Cond.classLink RJ7 68 RJx00060, Cond.instantiable RJx00060 6, Cond.initialized RJx00060, Cond.methodLink RX9 33 yX9_set, Cond.instanceMethod yX9_set, Cond.selects RX9 yX9_set yX9_set, Cond.code yX9_set cX9_set 6 none, Cond.methodLink RX6 34 yJx4a65c_init_da8c8, Cond.instanceMethod yJx4a65c_init_da8c8, Cond.code yJx4a65c_init_da8c8 cJx4a65c_init_da8c8 1 none, Cond.fieldLink RJx4a65c 39 "java/util/ArrayList" "DEFAULTCAPACITY_EMPTY_ELEMENTDATA" "[Ljava/lang/Object;", Cond.fieldLink RJx4a65c 9 "java/util/ArrayList" "elementData" "[Ljava/lang/Object;"]
def wsX6_init_r4 : List Cond := [Cond.methodLink RJx4a65c 1 yJxc12de_init_da8c8, Cond.instanceMethod yJxc12de_init_da8c8, Cond.initialized RJxc12de, Cond.code yJxc12de_init_da8c8 cJxc12de_init_da8c8 1 none, Cond.fieldLink RJxc12de 7 "java/util/AbstractList" "modCount" "I", Cond.methodLink RJxc12de 1 yJxa1e45_init_da8c8, Cond.instanceMethod yJxa1e45_init_da8c8, Cond.initialized RJxa1e45, Cond.code yJxa1e45_init_da8c8 cJxa1e45_init_da8c8 1 none, Cond.methodLink RJxa1e45 1 objectInit, Cond.methodLink RX6 44 yX3_init, Cond.instanceMethod yX3_init, Cond.code yX3_init cX3_init 7 none, Cond.methodLink RX3 3 objectInit, Cond.fieldLink RX3 9 "ModedMill$Goal" "kind" "I", Cond.fieldLink RX3 15 "ModedMill$Goal" "subject" "I", Cond.fieldLink RX3 18 "ModedMill$Goal" "count" "I", Cond.fieldLink RX3 21 "ModedMill$Goal" "variables" "[I"]
def wsX6_init : List Cond := .code yX6_init cX6_init 7 none :: ((wsX6_init_r1 ++ (wsX6_init_r2 ++ (wsX6_init_r3 ++ wsX6_init_r4))) ++ wsX60 ++ wsX90 ++ wsJx4a65c0 ++ wsX30 ++ wsJ40 ++ wsJx000600 ++ (vx_atM "java/lang/ArrayIndexOutOfBoundsException" ["java/lang/IndexOutOfBoundsException", "java/lang/RuntimeException", "java/lang/Exception"]).filter goodWord)
def wsX7_predicateCount : List Cond := .code yX7_predicateCount cX7_predicateCount 1 (some .int) :: ([.fieldLink RX7 12 "ModedMill$Program" "predicates" "Ljava/util/ArrayList;", .methodLink RX7 24 yJx4a65c_size_8abf5, .instanceMethod yJx4a65c_size_8abf5, .selects RJx4a65c yJx4a65c_size_8abf5 yJx4a65c_size_8abf5, .initialized RJx4a65c, .code yJx4a65c_size_8abf5 cJx4a65c_size_8abf5 1 (some .int), .fieldLink RJx4a65c 48 "java/util/ArrayList" "size" "I"] ++ wsX70 ++ wsJx4a65c0)
def wsX7_clauseCount : List Cond := .code yX7_clauseCount cX7_clauseCount 1 (some .int) :: ([.fieldLink RX7 21 "ModedMill$Program" "clauses" "Ljava/util/ArrayList;", .methodLink RX7 24 yJx4a65c_size_8abf5, .instanceMethod yJx4a65c_size_8abf5, .selects RJx4a65c yJx4a65c_size_8abf5 yJx4a65c_size_8abf5, .initialized RJx4a65c, .code yJx4a65c_size_8abf5 cJx4a65c_size_8abf5 1 (some .int), .fieldLink RJx4a65c 48 "java/util/ArrayList" "size" "I"] ++ wsX70 ++ wsJx4a65c0)
def wsX7_modeAt_r1 : List Cond := [Cond.methodLink RX7 36 yX7_predicateAt, Cond.instanceMethod yX7_predicateAt, Cond.selects RX7 yX7_predicateAt yX7_predicateAt, Cond.initialized RX7, Cond.code yX7_predicateAt cX7_predicateAt 2 (some (.object "ModedMill$Predicate")), Cond.fieldLink RX7 12 "ModedMill$Program" "predicates" "Ljava/util/ArrayList;", Cond.classLink RX7 32 "ModedMill$Predicate", Cond.methodLink RX7 24 yJx4a65c_size_8abf5, Cond.instanceMethod yJx4a65c_size_8abf5, Cond.selects RJx4a65c yJx4a65c_size_8abf5 yJx4a65c_size_8abf5, Cond.initialized RJx4a65c, Cond.code yJx4a65c_size_8abf5 cJx4a65c_size_8abf5 1 (some .int), Cond.fieldLink RJx4a65c 48 "java/util/ArrayList" "size" "I", Cond.methodLink RX7 28 yJx4a65c_get_915e3, Cond.instanceMethod yJx4a65c_get_915e3, Cond.selects RJx4a65c yJx4a65c_get_915e3 yJx4a65c_get_915e3, Cond.code yJx4a65c_get_915e3 cJx4a65c_get_915e3 2 (some (.object "java/lang/Object")), Cond.methodLink RJx4a65c 118 yJ15_checkIndex_7cf53, Cond.static yJ15_checkIndex_7cf53, Cond.initialized RJ15, Cond.code yJ15_checkIndex_7cf53 cJ15_checkIndex_7cf53 2 (some .int), Cond.methodLink RJ15 105 yJ3_checkIndex_8e157, Cond.static yJ3_checkIndex_8e157, Cond.initialized RJ3]
def wsX7_modeAt_r2 : List Cond := [Cond.code yJ3_checkIndex_8e157 cJ3_checkIndex_8e157 3 (some .int), Cond.methodLink RJx4a65c 123 yJx4a65c_elementData_915e3, Cond.instanceMethod yJx4a65c_elementData_915e3, Cond.selects RJx4a65c yJx4a65c_elementData_915e3 yJx4a65c_elementData_915e3, Cond.code yJx4a65c_elementData_915e3 cJx4a65c_elementData_915e3 2 (some (.object "java/lang/Object")), Cond.fieldLink RJx4a65c 9 "java/util/ArrayList" "elementData" "[Ljava/lang/Object;", Cond.methodLink RX7 40 yX6_modeAt, Cond.instanceMethod yX6_modeAt, Cond.selects RX6 yX6_modeAt yX6_modeAt, Cond.initialized RX6, Cond.code yX6_modeAt cX6_modeAt 2 (some (.object "ModedMill$Mode")), Cond.fieldLink RX6 35 "ModedMill$Predicate" "modes" "Ljava/util/ArrayList;", Cond.classLink RX6 65 "ModedMill$Mode", Cond.methodLink RX6 59 yJx4a65c_size_8abf5, Cond.methodLink RX6 62 yJx4a65c_get_915e3]
def wsX7_modeAt : List Cond := .code yX7_modeAt cX7_modeAt 4 (some (.object "ModedMill$Mode")) :: ((wsX7_modeAt_r1 ++ wsX7_modeAt_r2) ++ wsX70 ++ wsJx4a65c0 ++ wsX60)
def wsX7_newPredicate_r1 : List Cond := [Cond.fieldLink RX7 12 "ModedMill$Program" "predicates" "Ljava/util/ArrayList;", Cond.classLink RX7 32 RX6, Cond.instantiable RX6 5, Cond.initialized RX6, Cond.methodLink RX7 24 yJx4a65c_size_8abf5, Cond.instanceMethod yJx4a65c_size_8abf5, Cond.selects RJx4a65c yJx4a65c_size_8abf5 yJx4a65c_size_8abf5, Cond.initialized RJx4a65c, Cond.code yJx4a65c_size_8abf5 cJx4a65c_size_8abf5 1 (some .int), Cond.fieldLink RJx4a65c 48 "java/util/ArrayList" "size" "I", Cond.methodLink RX7 44 yX6_init, Cond.instanceMethod yX6_init, Cond.code yX6_init cX6_init 7 none, Cond.methodLink RX6 3 objectInit, Cond.instanceMethod objectInit, Cond.code objectInit ⟨#[0xb1]⟩ 1 none, Cond.fieldLink RX6 9 "ModedMill$Predicate" "number" "I", Cond.classLink RX6 15 RX9, Cond.instantiable RX9 3, Cond.initialized RX9, Cond.fieldLink RX6 20 "ModedMill$Predicate" "types" "LModedMill$Table;", Cond.classLink RX6 32 RJx4a65c, Cond.instantiable RJx4a65c 3, Cond.fieldLink RX6 35 "ModedMill$Predicate" "modes" "Ljava/util/ArrayList;"]
def wsX7_newPredicate_r2 : List Cond := [Cond.fieldLink RX6 39 "ModedMill$Predicate" "clauses" "Ljava/util/ArrayList;", Cond.classLink RX6 42 RX3, Cond.instantiable RX3 4, Cond.initialized RX3, Cond.fieldLink RX6 47 "ModedMill$Predicate" "question" "LModedMill$Goal;", Cond.methodLink RX6 17 yX9_init, Cond.instanceMethod yX9_init, Cond.code yX9_init cX9_init 3 none, Cond.methodLink RX9 3 objectInit, Cond.fieldLink RX9 9 "ModedMill$Table" "columns" "I", Cond.constant RX9 15 (1000000), Cond.arrayClass .int, Cond.fieldLink RX9 16 "ModedMill$Table" "cells" "[I", Cond.fieldLink RX9 20 "ModedMill$Table" "lines" "I", Cond.static yX11_pick, Cond.initialized RX11, Cond.code yX11_pick cX11_pick 4 (some .int), Cond.methodLink RX6 28 yX9_add, Cond.instanceMethod yX9_add, Cond.selects RX9 yX9_add yX9_add, Cond.code yX9_add cX9_add 6 (some .int), Cond.methodLink RX9 23 yJ7_copyOf_59c91, Cond.static yJ7_copyOf_59c91, Cond.initialized RJ7]
def wsX7_newPredicate_r3 : List Cond := [Cond.code yJ7_copyOf_59c91 cJ7_copyOf_59c91 3 (some (.array .int)), Cond.methodLink RJ7 316 ⟨"[I", "clone", "()Ljava/lang/Object;"⟩, Cond.sameMethod "[I" "java/lang/Object" "clone" "()Ljava/lang/Object;", Cond.native ⟨"java/lang/Object", "clone", "()Ljava/lang/Object;"⟩, Cond.instanceMethod ⟨"java/lang/Object", "clone", "()Ljava/lang/Object;"⟩, Cond.selects "[I" ⟨"[I", "clone", "()Ljava/lang/Object;"⟩ ⟨"java/lang/Object", "clone", "()Ljava/lang/Object;"⟩, Cond.classLink RJ7 317 "[I", Cond.methodLink RJ7 304 Lib.Math.min.name, Cond.static Lib.Math.min.name, Cond.initialized "java/lang/Math", Cond.code Lib.Math.min.name Lib.Math.min.code 2 (some .int), Cond.methodLink RJ7 150 arraycopyName, Cond.native arraycopyName, Cond.static arraycopyName, Cond.initialized "java/lang/System", Cond.methodLink RX9 29 yJ7_fill_fda19, Cond.static yJ7_fill_fda19, Cond.code yJ7_fill_fda19 cJ7_fill_fda19 5 none, Cond.methodLink RJ7 13 yJ7_rangeCheck_23922, Cond.static yJ7_rangeCheck_23922, Cond.code yJ7_rangeCheck_23922 cJ7_rangeCheck_23922 3 none, Cond.classLink RJ7 45 RJ4, Cond.instantiable RJ4 4, Cond.initialized RJ4]
def wsX7_newPredicate_r4 : List Cond := [Cond.classLink RJ7 68 RJx00060, Cond.instantiable RJx00060 6, Cond.initialized RJx00060, Cond.methodLink RX9 33 yX9_set, Cond.instanceMethod yX9_set, Cond.selects RX9 yX9_set yX9_set, Cond.code yX9_set cX9_set 6 none, Cond.methodLink RX6 34 yJx4a65c_init_da8c8, Cond.instanceMethod yJx4a65c_init_da8c8, Cond.code yJx4a65c_init_da8c8 cJx4a65c_init_da8c8 1 none, Cond.fieldLink RJx4a65c 39 "java/util/ArrayList" "DEFAULTCAPACITY_EMPTY_ELEMENTDATA" "[Ljava/lang/Object;", Cond.fieldLink RJx4a65c 9 "java/util/ArrayList" "elementData" "[Ljava/lang/Object;", Cond.methodLink RJx4a65c 1 yJxc12de_init_da8c8, Cond.instanceMethod yJxc12de_init_da8c8, Cond.initialized RJxc12de, Cond.code yJxc12de_init_da8c8 cJxc12de_init_da8c8 1 none, Cond.fieldLink RJxc12de 7 "java/util/AbstractList" "modCount" "I", Cond.methodLink RJxc12de 1 yJxa1e45_init_da8c8, Cond.instanceMethod yJxa1e45_init_da8c8, Cond.initialized RJxa1e45, Cond.code yJxa1e45_init_da8c8 cJxa1e45_init_da8c8 1 none, Cond.methodLink RJxa1e45 1 objectInit, Cond.methodLink RX6 44 yX3_init, Cond.instanceMethod yX3_init]
def wsX7_newPredicate_r5 : List Cond := [Cond.code yX3_init cX3_init 7 none, Cond.methodLink RX3 3 objectInit, Cond.fieldLink RX3 9 "ModedMill$Goal" "kind" "I", Cond.fieldLink RX3 15 "ModedMill$Goal" "subject" "I", Cond.fieldLink RX3 18 "ModedMill$Goal" "count" "I", Cond.fieldLink RX3 21 "ModedMill$Goal" "variables" "[I", Cond.methodLink RX7 47 yJx4a65c_add_9ea2d, Cond.instanceMethod yJx4a65c_add_9ea2d, Cond.selects RJx4a65c yJx4a65c_add_9ea2d yJx4a65c_add_9ea2d, Cond.code yJx4a65c_add_9ea2d cJx4a65c_add_9ea2d 2 (some .boolean), Cond.fieldLink RJx4a65c 63 "java/util/ArrayList" "modCount" "I", Cond.sameField "java/util/ArrayList" "java/util/AbstractList" "modCount" "I", Cond.methodLink RJx4a65c 131 yJx4a65c_add_72be8, Cond.instanceMethod yJx4a65c_add_72be8, Cond.selects RJx4a65c yJx4a65c_add_72be8 yJx4a65c_add_72be8, Cond.code yJx4a65c_add_72be8 cJx4a65c_add_72be8 4 none, Cond.methodLink RJx4a65c 129 yJx4a65c_grow_d5877, Cond.instanceMethod yJx4a65c_grow_d5877, Cond.selects RJx4a65c yJx4a65c_grow_d5877 yJx4a65c_grow_d5877, Cond.code yJx4a65c_grow_d5877 cJx4a65c_grow_d5877 1 (some (.array (.object "java/lang/Object"))), Cond.methodLink RJx4a65c 69 yJx4a65c_grow_92f84, Cond.instanceMethod yJx4a65c_grow_92f84, Cond.selects RJx4a65c yJx4a65c_grow_92f84 yJx4a65c_grow_92f84, Cond.code yJx4a65c_grow_92f84 cJx4a65c_grow_92f84 4 (some (.array (.object "java/lang/Object")))]
def wsX7_newPredicate_r6 : List Cond := [Cond.methodLink RJx4a65c 79 Lib.Math.max.name, Cond.static Lib.Math.max.name, Cond.code Lib.Math.max.name Lib.Math.max.code 2 (some .int), Cond.classLink RJx4a65c 7 "java/lang/Object", Cond.methodLink RJx4a65c 73 yJ8_newLength_cabcc, Cond.static yJ8_newLength_cabcc, Cond.initialized RJ8, Cond.code yJ8_newLength_cabcc cJ8_newLength_cabcc 4 (some .int), Cond.methodLink RJ8 194 Lib.Math.max.name, Cond.constant RJ8 200 (2147483639), Cond.methodLink RJ8 201 yJ8_hugeLength_7cf53, Cond.static yJ8_hugeLength_7cf53, Cond.code yJ8_hugeLength_7cf53 cJ8_hugeLength_7cf53 3 (some .int), Cond.methodLink RJx4a65c 66 yJ7_copyOf_1904c, Cond.static yJ7_copyOf_1904c, Cond.code yJ7_copyOf_1904c cJ7_copyOf_1904c 2 (some (.array (.object "java/lang/Object"))), Cond.methodLink RJ7 86 ⟨"java/lang/Object", "getClass", "()Ljava/lang/Class;"⟩, Cond.selects "[Ljava/lang/Object;" ⟨"java/lang/Object", "getClass", "()Ljava/lang/Class;"⟩ ⟨"java/lang/Object", "getClass", "()Ljava/lang/Class;"⟩, Cond.instanceMethod ⟨"java/lang/Object", "getClass", "()Ljava/lang/Class;"⟩, Cond.native ⟨"java/lang/Object", "getClass", "()Ljava/lang/Class;"⟩, Cond.methodLink RJ7 300 yJ7_copyOf_6403c, Cond.static yJ7_copyOf_6403c, Cond.code yJ7_copyOf_6403c cJ7_copyOf_6403c 4 (some (.array (.object "java/lang/Object"))), Cond.classLink RJ7 110 "[Ljava/lang/Object;"]
def wsX7_newPredicate_r7 : List Cond := [Cond.classLink RJ7 2 "java/lang/Object"]
def wsX7_newPredicate : List Cond := .code yX7_newPredicate cX7_newPredicate 4 (some .int) :: ((wsX7_newPredicate_r1 ++ (wsX7_newPredicate_r2 ++ (wsX7_newPredicate_r3 ++ (wsX7_newPredicate_r4 ++ (wsX7_newPredicate_r5 ++ (wsX7_newPredicate_r6 ++ wsX7_newPredicate_r7)))))) ++ wsX70 ++ wsX60 ++ wsJx4a65c0 ++ wsX90 ++ wsX30 ++ wsJ40 ++ wsJx000600 ++ (vx_atM "java/lang/ArrayIndexOutOfBoundsException" ["java/lang/IndexOutOfBoundsException", "java/lang/RuntimeException", "java/lang/Exception"]).filter goodWord)
def wsX7_faultCount_r1 : List Cond := [Cond.fieldLink RX7 18 "ModedMill$Program" "modes" "Ljava/util/ArrayList;", Cond.classLink RX7 51 "ModedMill$Mode", Cond.methodLink RX7 24 yJx4a65c_size_8abf5, Cond.instanceMethod yJx4a65c_size_8abf5, Cond.selects RJx4a65c yJx4a65c_size_8abf5 yJx4a65c_size_8abf5, Cond.initialized RJx4a65c, Cond.code yJx4a65c_size_8abf5 cJx4a65c_size_8abf5 1 (some .int), Cond.fieldLink RJx4a65c 48 "java/util/ArrayList" "size" "I", Cond.methodLink RX7 28 yJx4a65c_get_915e3, Cond.instanceMethod yJx4a65c_get_915e3, Cond.selects RJx4a65c yJx4a65c_get_915e3 yJx4a65c_get_915e3, Cond.code yJx4a65c_get_915e3 cJx4a65c_get_915e3 2 (some (.object "java/lang/Object")), Cond.methodLink RJx4a65c 118 yJ15_checkIndex_7cf53, Cond.static yJ15_checkIndex_7cf53, Cond.initialized RJ15, Cond.code yJ15_checkIndex_7cf53 cJ15_checkIndex_7cf53 2 (some .int), Cond.methodLink RJ15 105 yJ3_checkIndex_8e157, Cond.static yJ3_checkIndex_8e157, Cond.initialized RJ3, Cond.code yJ3_checkIndex_8e157 cJ3_checkIndex_8e157 3 (some .int), Cond.methodLink RJx4a65c 123 yJx4a65c_elementData_915e3, Cond.instanceMethod yJx4a65c_elementData_915e3, Cond.selects RJx4a65c yJx4a65c_elementData_915e3 yJx4a65c_elementData_915e3, Cond.code yJx4a65c_elementData_915e3 cJx4a65c_elementData_915e3 2 (some (.object "java/lang/Object"))]
def wsX7_faultCount_r2 : List Cond := [Cond.fieldLink RJx4a65c 9 "java/util/ArrayList" "elementData" "[Ljava/lang/Object;", Cond.methodLink RX7 66 yX5_faultSign, Cond.instanceMethod yX5_faultSign, Cond.selects RX5 yX5_faultSign yX5_faultSign, Cond.initialized RX5, Cond.code yX5_faultSign cX5_faultSign 1 (some .char), Cond.fieldLink RX5 36 "ModedMill$Mode" "lost" "Z", Cond.fieldLink RX5 39 "ModedMill$Mode" "good" "Z", Cond.methodLink RX5 42 yX5_isBroken, Cond.instanceMethod yX5_isBroken, Cond.selects RX5 yX5_isBroken yX5_isBroken, Cond.code yX5_isBroken cX5_isBroken 3 (some .boolean), Cond.fieldLink RX5 33 "ModedMill$Mode" "canFail" "Z", Cond.fieldLink RX5 22 "ModedMill$Mode" "promise" "C", Cond.fieldLink RX5 29 "ModedMill$Mode" "canRepeat" "Z"]
def wsX7_faultCount : List Cond := .code yX7_faultCount cX7_faultCount 3 (some .int) :: ((wsX7_faultCount_r1 ++ wsX7_faultCount_r2) ++ wsX70 ++ wsJx4a65c0 ++ wsX50)
def wsX7_spreadFaults_r1 : List Cond := [Cond.fieldLink RX7 18 "ModedMill$Program" "modes" "Ljava/util/ArrayList;", Cond.classLink RX7 51 "ModedMill$Mode", Cond.methodLink RX7 24 yJx4a65c_size_8abf5, Cond.instanceMethod yJx4a65c_size_8abf5, Cond.selects RJx4a65c yJx4a65c_size_8abf5 yJx4a65c_size_8abf5, Cond.initialized RJx4a65c, Cond.code yJx4a65c_size_8abf5 cJx4a65c_size_8abf5 1 (some .int), Cond.fieldLink RJx4a65c 48 "java/util/ArrayList" "size" "I", Cond.methodLink RX7 28 yJx4a65c_get_915e3, Cond.instanceMethod yJx4a65c_get_915e3, Cond.selects RJx4a65c yJx4a65c_get_915e3 yJx4a65c_get_915e3, Cond.code yJx4a65c_get_915e3 cJx4a65c_get_915e3 2 (some (.object "java/lang/Object")), Cond.methodLink RJx4a65c 118 yJ15_checkIndex_7cf53, Cond.static yJ15_checkIndex_7cf53, Cond.initialized RJ15, Cond.code yJ15_checkIndex_7cf53 cJ15_checkIndex_7cf53 2 (some .int), Cond.methodLink RJ15 105 yJ3_checkIndex_8e157, Cond.static yJ3_checkIndex_8e157, Cond.initialized RJ3, Cond.code yJ3_checkIndex_8e157 cJ3_checkIndex_8e157 3 (some .int), Cond.methodLink RJx4a65c 123 yJx4a65c_elementData_915e3, Cond.instanceMethod yJx4a65c_elementData_915e3, Cond.selects RJx4a65c yJx4a65c_elementData_915e3 yJx4a65c_elementData_915e3, Cond.code yJx4a65c_elementData_915e3 cJx4a65c_elementData_915e3 2 (some (.object "java/lang/Object"))]
def wsX7_spreadFaults_r2 : List Cond := [Cond.fieldLink RJx4a65c 9 "java/util/ArrayList" "elementData" "[Ljava/lang/Object;", Cond.methodLink RX7 185 yX7_choosesBad, Cond.static yX7_choosesBad, Cond.initialized RX7, Cond.code yX7_choosesBad cX7_choosesBad 6 (some .boolean), Cond.methodLink RX7 106 yX6_clauseCount, Cond.instanceMethod yX6_clauseCount, Cond.selects RX6 yX6_clauseCount yX6_clauseCount, Cond.initialized RX6, Cond.code yX6_clauseCount cX6_clauseCount 1 (some .int), Cond.fieldLink RX6 39 "ModedMill$Predicate" "clauses" "Ljava/util/ArrayList;", Cond.methodLink RX6 59 yJx4a65c_size_8abf5, Cond.methodLink RX7 109 yX6_clauseAt, Cond.instanceMethod yX6_clauseAt, Cond.selects RX6 yX6_clauseAt yX6_clauseAt, Cond.code yX6_clauseAt cX6_clauseAt 2 (some (.object "ModedMill$Clause")), Cond.classLink RX6 67 "ModedMill$Clause", Cond.methodLink RX6 62 yJx4a65c_get_915e3, Cond.methodLink RX7 188 yX1_placeCount, Cond.instanceMethod yX1_placeCount, Cond.selects RX1 yX1_placeCount yX1_placeCount, Cond.initialized RX1, Cond.code yX1_placeCount cX1_placeCount 2 (some .int), Cond.fieldLink RX1 45 "ModedMill$Clause" "lengths" "[I"]
def wsX7_spreadFaults_r3 : List Cond := [Cond.methodLink RX7 191 yX1_chosenIn, Cond.instanceMethod yX1_chosenIn, Cond.selects RX1 yX1_chosenIn yX1_chosenIn, Cond.code yX1_chosenIn cX1_chosenIn 4 (some (.object "ModedMill$Mode")), Cond.fieldLink RX1 60 "ModedMill$Clause" "chosen" "[LModedMill$Mode;", Cond.methodLink RX1 99 yX1_slot, Cond.instanceMethod yX1_slot, Cond.selects RX1 yX1_slot yX1_slot, Cond.code yX1_slot cX1_slot 4 (some .int)]
def wsX7_spreadFaults : List Cond := .code yX7_spreadFaults cX7_spreadFaults 4 (some .boolean) :: ((wsX7_spreadFaults_r1 ++ (wsX7_spreadFaults_r2 ++ wsX7_spreadFaults_r3)) ++ wsX70 ++ wsX50 ++ wsJx4a65c0 ++ wsX60 ++ wsX10 ++ (vx_atM "java/lang/ArrayIndexOutOfBoundsException" ["java/lang/IndexOutOfBoundsException", "java/lang/RuntimeException", "java/lang/Exception"]).filter goodWord)
def wsX10_constructorCount : List Cond := .code yX10_constructorCount cX10_constructorCount 1 (some .int) :: ([.fieldLink RX10 20 "ModedMill$Terms" "constructors" "LModedMill$Table;", .methodLink RX10 38 yX9_count, .instanceMethod yX9_count, .selects RX9 yX9_count yX9_count, .initialized RX9, .code yX9_count cX9_count 1 (some .int), .fieldLink RX9 20 "ModedMill$Table" "lines" "I"] ++ wsX100 ++ wsX90)
def wsX7_spreadFound_r1 : List Cond := [Cond.fieldLink RX7 18 "ModedMill$Program" "modes" "Ljava/util/ArrayList;", Cond.classLink RX7 51 "ModedMill$Mode", Cond.methodLink RX7 24 yJx4a65c_size_8abf5, Cond.instanceMethod yJx4a65c_size_8abf5, Cond.selects RJx4a65c yJx4a65c_size_8abf5 yJx4a65c_size_8abf5, Cond.initialized RJx4a65c, Cond.code yJx4a65c_size_8abf5 cJx4a65c_size_8abf5 1 (some .int), Cond.fieldLink RJx4a65c 48 "java/util/ArrayList" "size" "I", Cond.methodLink RX7 28 yJx4a65c_get_915e3, Cond.instanceMethod yJx4a65c_get_915e3, Cond.selects RJx4a65c yJx4a65c_get_915e3 yJx4a65c_get_915e3, Cond.code yJx4a65c_get_915e3 cJx4a65c_get_915e3 2 (some (.object "java/lang/Object")), Cond.methodLink RJx4a65c 118 yJ15_checkIndex_7cf53, Cond.static yJ15_checkIndex_7cf53, Cond.initialized RJ15, Cond.code yJ15_checkIndex_7cf53 cJ15_checkIndex_7cf53 2 (some .int), Cond.methodLink RJ15 105 yJ3_checkIndex_8e157, Cond.static yJ3_checkIndex_8e157, Cond.initialized RJ3, Cond.code yJ3_checkIndex_8e157 cJ3_checkIndex_8e157 3 (some .int), Cond.methodLink RJx4a65c 123 yJx4a65c_elementData_915e3, Cond.instanceMethod yJx4a65c_elementData_915e3, Cond.selects RJx4a65c yJx4a65c_elementData_915e3 yJx4a65c_elementData_915e3, Cond.code yJx4a65c_elementData_915e3 cJx4a65c_elementData_915e3 2 (some (.object "java/lang/Object"))]
def wsX7_spreadFound_r2 : List Cond := [Cond.fieldLink RJx4a65c 9 "java/util/ArrayList" "elementData" "[Ljava/lang/Object;", Cond.methodLink RX7 195 yX7_canModeFail, Cond.static yX7_canModeFail, Cond.initialized RX7, Cond.code yX7_canModeFail cX7_canModeFail 4 (some .boolean), Cond.methodLink RX7 106 yX6_clauseCount, Cond.instanceMethod yX6_clauseCount, Cond.selects RX6 yX6_clauseCount yX6_clauseCount, Cond.initialized RX6, Cond.code yX6_clauseCount cX6_clauseCount 1 (some .int), Cond.fieldLink RX6 39 "ModedMill$Predicate" "clauses" "Ljava/util/ArrayList;", Cond.methodLink RX6 59 yJx4a65c_size_8abf5, Cond.methodLink RX7 109 yX6_clauseAt, Cond.instanceMethod yX6_clauseAt, Cond.selects RX6 yX6_clauseAt yX6_clauseAt, Cond.code yX6_clauseAt cX6_clauseAt 2 (some (.object "ModedMill$Clause")), Cond.classLink RX6 67 "ModedMill$Clause", Cond.methodLink RX6 62 yJx4a65c_get_915e3, Cond.methodLink RX7 202 yX7_canClauseFail, Cond.static yX7_canClauseFail, Cond.code yX7_canClauseFail cX7_canClauseFail 8 (some .boolean), Cond.methodLink RX7 188 yX1_placeCount, Cond.instanceMethod yX1_placeCount, Cond.selects RX1 yX1_placeCount yX1_placeCount]
def wsX7_spreadFound_r3 : List Cond := [Cond.initialized RX1, Cond.code yX1_placeCount cX1_placeCount 2 (some .int), Cond.fieldLink RX1 45 "ModedMill$Clause" "lengths" "[I", Cond.methodLink RX7 181 yX1_goalIn, Cond.instanceMethod yX1_goalIn, Cond.selects RX1 yX1_goalIn yX1_goalIn, Cond.code yX1_goalIn cX1_goalIn 4 (some (.object "ModedMill$Goal")), Cond.fieldLink RX1 54 "ModedMill$Clause" "ordered" "[LModedMill$Goal;", Cond.methodLink RX1 99 yX1_slot, Cond.instanceMethod yX1_slot, Cond.selects RX1 yX1_slot yX1_slot, Cond.code yX1_slot cX1_slot 4 (some .int), Cond.methodLink RX7 222 yX1_knownIn, Cond.instanceMethod yX1_knownIn, Cond.selects RX1 yX1_knownIn yX1_knownIn, Cond.code yX1_knownIn cX1_knownIn 4 (some .int), Cond.fieldLink RX1 64 "ModedMill$Clause" "known" "[I", Cond.methodLink RX7 191 yX1_chosenIn, Cond.instanceMethod yX1_chosenIn, Cond.selects RX1 yX1_chosenIn yX1_chosenIn, Cond.code yX1_chosenIn cX1_chosenIn 4 (some (.object "ModedMill$Mode")), Cond.fieldLink RX1 60 "ModedMill$Clause" "chosen" "[LModedMill$Mode;", Cond.methodLink RX7 226 yX7_clashes, Cond.static yX7_clashes]
def wsX7_spreadFound_r4 : List Cond := [Cond.code yX7_clashes cX7_clashes 5 (some .boolean), Cond.methodLink RX7 177 yX5_isInput, Cond.instanceMethod yX5_isInput, Cond.selects RX5 yX5_isInput yX5_isInput, Cond.initialized RX5, Cond.code yX5_isInput cX5_isInput 2 (some .boolean), Cond.fieldLink RX5 19 "ModedMill$Mode" "inputs" "I", Cond.methodLink RX7 156 yX3_variableAt, Cond.instanceMethod yX3_variableAt, Cond.selects RX3 yX3_variableAt yX3_variableAt, Cond.initialized RX3, Cond.code yX3_variableAt cX3_variableAt 2 (some .int), Cond.fieldLink RX3 21 "ModedMill$Goal" "variables" "[I", Cond.methodLink RX7 229 yX7_canGoalFail, Cond.static yX7_canGoalFail, Cond.code yX7_canGoalFail cX7_canGoalFail 4 (some .boolean), Cond.methodLink RX7 205 yX7_isTypeCovered, Cond.static yX7_isTypeCovered, Cond.code yX7_isTypeCovered cX7_isTypeCovered 5 (some .boolean), Cond.methodLink RX7 208 yX6_typeAt, Cond.instanceMethod yX6_typeAt, Cond.selects RX6 yX6_typeAt yX6_typeAt, Cond.code yX6_typeAt cX6_typeAt 2 (some .int), Cond.fieldLink RX6 20 "ModedMill$Predicate" "types" "LModedMill$Table;"]
def wsX7_spreadFound_r5 : List Cond := [Cond.methodLink RX6 55 yX9_get, Cond.instanceMethod yX9_get, Cond.selects RX9 yX9_get yX9_get, Cond.initialized RX9, Cond.code yX9_get cX9_get 5 (some .int), Cond.fieldLink RX9 9 "ModedMill$Table" "columns" "I", Cond.fieldLink RX9 20 "ModedMill$Table" "lines" "I", Cond.fieldLink RX9 16 "ModedMill$Table" "cells" "[I", Cond.methodLink RX7 211 yX10_constructorCount, Cond.instanceMethod yX10_constructorCount, Cond.selects RX10 yX10_constructorCount yX10_constructorCount, Cond.initialized RX10, Cond.code yX10_constructorCount cX10_constructorCount 1 (some .int), Cond.fieldLink RX10 20 "ModedMill$Terms" "constructors" "LModedMill$Table;", Cond.methodLink RX10 38 yX9_count, Cond.instanceMethod yX9_count, Cond.selects RX9 yX9_count yX9_count, Cond.code yX9_count cX9_count 1 (some .int), Cond.methodLink RX7 216 yX10_typeOfHead, Cond.instanceMethod yX10_typeOfHead, Cond.selects RX10 yX10_typeOfHead yX10_typeOfHead, Cond.code yX10_typeOfHead cX10_typeOfHead 2 (some .int), Cond.methodLink RX10 42 yX9_get, Cond.methodLink RX7 199 yX7_canModeRepeat]
def wsX7_spreadFound_r6 : List Cond := [Cond.static yX7_canModeRepeat, Cond.code yX7_canModeRepeat cX7_canModeRepeat 3 (some .boolean), Cond.methodLink RX7 219 yX7_canClauseRepeat, Cond.static yX7_canClauseRepeat, Cond.code yX7_canClauseRepeat cX7_canClauseRepeat 6 (some .boolean)]
def wsX7_spreadFound : List Cond := .code yX7_spreadFound cX7_spreadFound 7 (some .boolean) :: ((wsX7_spreadFound_r1 ++ (wsX7_spreadFound_r2 ++ (wsX7_spreadFound_r3 ++ (wsX7_spreadFound_r4 ++ (wsX7_spreadFound_r5 ++ wsX7_spreadFound_r6))))) ++ wsX70 ++ wsX50 ++ wsJx4a65c0 ++ wsX60 ++ wsX10 ++ wsX30 ++ wsX90 ++ wsX100 ++ (vx_atM "java/lang/ArrayIndexOutOfBoundsException" ["java/lang/IndexOutOfBoundsException", "java/lang/RuntimeException", "java/lang/Exception"]).filter goodWord)
def wsX7_analyse_r1 : List Cond := [Cond.fieldLink RX7 18 "ModedMill$Program" "modes" "Ljava/util/ArrayList;", Cond.classLink RX7 51 "ModedMill$Mode", Cond.methodLink RX7 24 yJx4a65c_size_8abf5, Cond.instanceMethod yJx4a65c_size_8abf5, Cond.selects RJx4a65c yJx4a65c_size_8abf5 yJx4a65c_size_8abf5, Cond.initialized RJx4a65c, Cond.code yJx4a65c_size_8abf5 cJx4a65c_size_8abf5 1 (some .int), Cond.fieldLink RJx4a65c 48 "java/util/ArrayList" "size" "I", Cond.methodLink RX7 28 yJx4a65c_get_915e3, Cond.instanceMethod yJx4a65c_get_915e3, Cond.selects RJx4a65c yJx4a65c_get_915e3 yJx4a65c_get_915e3, Cond.code yJx4a65c_get_915e3 cJx4a65c_get_915e3 2 (some (.object "java/lang/Object")), Cond.methodLink RJx4a65c 118 yJ15_checkIndex_7cf53, Cond.static yJ15_checkIndex_7cf53, Cond.initialized RJ15, Cond.code yJ15_checkIndex_7cf53 cJ15_checkIndex_7cf53 2 (some .int), Cond.methodLink RJ15 105 yJ3_checkIndex_8e157, Cond.static yJ3_checkIndex_8e157, Cond.initialized RJ3, Cond.code yJ3_checkIndex_8e157 cJ3_checkIndex_8e157 3 (some .int), Cond.methodLink RJx4a65c 123 yJx4a65c_elementData_915e3, Cond.instanceMethod yJx4a65c_elementData_915e3, Cond.selects RJx4a65c yJx4a65c_elementData_915e3 yJx4a65c_elementData_915e3, Cond.code yJx4a65c_elementData_915e3 cJx4a65c_elementData_915e3 2 (some (.object "java/lang/Object"))]
def wsX7_analyse_r2 : List Cond := [Cond.fieldLink RJx4a65c 9 "java/util/ArrayList" "elementData" "[Ljava/lang/Object;", Cond.methodLink RX7 77 yX7_putInOrder, Cond.instanceMethod yX7_putInOrder, Cond.selects RX7 yX7_putInOrder yX7_putInOrder, Cond.initialized RX7, Cond.code yX7_putInOrder cX7_putInOrder 5 (some .boolean), Cond.methodLink RX7 106 yX6_clauseCount, Cond.instanceMethod yX6_clauseCount, Cond.selects RX6 yX6_clauseCount yX6_clauseCount, Cond.initialized RX6, Cond.code yX6_clauseCount cX6_clauseCount 1 (some .int), Cond.fieldLink RX6 39 "ModedMill$Predicate" "clauses" "Ljava/util/ArrayList;", Cond.methodLink RX6 59 yJx4a65c_size_8abf5, Cond.methodLink RX7 109 yX6_clauseAt, Cond.instanceMethod yX6_clauseAt, Cond.selects RX6 yX6_clauseAt yX6_clauseAt, Cond.code yX6_clauseAt cX6_clauseAt 2 (some (.object "ModedMill$Clause")), Cond.classLink RX6 67 "ModedMill$Clause", Cond.methodLink RX6 62 yJx4a65c_get_915e3, Cond.methodLink RX7 113 yX7_putClauseInOrder, Cond.instanceMethod yX7_putClauseInOrder, Cond.selects RX7 yX7_putClauseInOrder yX7_putClauseInOrder, Cond.code yX7_putClauseInOrder cX7_putClauseInOrder 8 (some .boolean), Cond.methodLink RX7 117 yX1_clearOrder]
def wsX7_analyse_r3 : List Cond := [Cond.instanceMethod yX1_clearOrder, Cond.selects RX1 yX1_clearOrder yX1_clearOrder, Cond.initialized RX1, Cond.code yX1_clearOrder cX1_clearOrder 2 none, Cond.fieldLink RX1 45 "ModedMill$Clause" "lengths" "[I", Cond.methodLink RX7 124 yX1_goalCount, Cond.instanceMethod yX1_goalCount, Cond.selects RX1 yX1_goalCount yX1_goalCount, Cond.code yX1_goalCount cX1_goalCount 1 (some .int), Cond.fieldLink RX1 41 "ModedMill$Clause" "goals" "Ljava/util/ArrayList;", Cond.methodLink RX1 71 yJx4a65c_size_8abf5, Cond.methodLink RX7 127 yX7_nextGoal, Cond.instanceMethod yX7_nextGoal, Cond.selects RX7 yX7_nextGoal yX7_nextGoal, Cond.code yX7_nextGoal cX7_nextGoal 7 (some .int), Cond.methodLink RX7 131 yX1_goalNumbered, Cond.instanceMethod yX1_goalNumbered, Cond.selects RX1 yX1_goalNumbered yX1_goalNumbered, Cond.code yX1_goalNumbered cX1_goalNumbered 2 (some (.object "ModedMill$Goal")), Cond.classLink RX1 52 "ModedMill$Goal", Cond.methodLink RX1 75 yJx4a65c_get_915e3, Cond.methodLink RX7 135 yX7_chooseMode, Cond.instanceMethod yX7_chooseMode, Cond.selects RX7 yX7_chooseMode yX7_chooseMode]
def wsX7_analyse_r4 : List Cond := [Cond.code yX7_chooseMode cX7_chooseMode 7 (some (.object "ModedMill$Mode")), Cond.methodLink RX7 162 yX3_isCalling, Cond.instanceMethod yX3_isCalling, Cond.selects RX3 yX3_isCalling yX3_isCalling, Cond.initialized RX3, Cond.code yX3_isCalling cX3_isCalling 1 (some .boolean), Cond.fieldLink RX3 9 "ModedMill$Goal" "kind" "I", Cond.methodLink RX7 36 yX7_predicateAt, Cond.instanceMethod yX7_predicateAt, Cond.selects RX7 yX7_predicateAt yX7_predicateAt, Cond.code yX7_predicateAt cX7_predicateAt 2 (some (.object "ModedMill$Predicate")), Cond.fieldLink RX7 12 "ModedMill$Program" "predicates" "Ljava/util/ArrayList;", Cond.classLink RX7 32 "ModedMill$Predicate", Cond.methodLink RX7 168 yX6_modeCount, Cond.instanceMethod yX6_modeCount, Cond.selects RX6 yX6_modeCount yX6_modeCount, Cond.code yX6_modeCount cX6_modeCount 1 (some .int), Cond.fieldLink RX6 35 "ModedMill$Predicate" "modes" "Ljava/util/ArrayList;", Cond.methodLink RX7 40 yX6_modeAt, Cond.instanceMethod yX6_modeAt, Cond.selects RX6 yX6_modeAt yX6_modeAt, Cond.code yX6_modeAt cX6_modeAt 2 (some (.object "ModedMill$Mode")), Cond.classLink RX6 65 "ModedMill$Mode", Cond.methodLink RX7 171 yX7_areInputsKnown]
def wsX7_analyse_r5 : List Cond := [Cond.static yX7_areInputsKnown, Cond.code yX7_areInputsKnown cX7_areInputsKnown 4 (some .boolean), Cond.methodLink RX7 177 yX5_isInput, Cond.instanceMethod yX5_isInput, Cond.selects RX5 yX5_isInput yX5_isInput, Cond.initialized RX5, Cond.code yX5_isInput cX5_isInput 2 (some .boolean), Cond.fieldLink RX5 19 "ModedMill$Mode" "inputs" "I", Cond.methodLink RX7 156 yX3_variableAt, Cond.instanceMethod yX3_variableAt, Cond.selects RX3 yX3_variableAt yX3_variableAt, Cond.code yX3_variableAt cX3_variableAt 2 (some .int), Cond.fieldLink RX3 21 "ModedMill$Goal" "variables" "[I", Cond.methodLink RX7 152 yX7_canBeTaken, Cond.static yX7_canBeTaken, Cond.code yX7_canBeTaken cX7_canBeTaken 4 (some .boolean), Cond.methodLink RX7 143 yX3_variableSet, Cond.instanceMethod yX3_variableSet, Cond.selects RX3 yX3_variableSet yX3_variableSet, Cond.code yX3_variableSet cX3_variableSet 4 (some .int), Cond.fieldLink RX3 18 "ModedMill$Goal" "count" "I", Cond.methodLink RX3 25 yX3_variableAt, Cond.methodLink RX7 139 yX1_takeNext, Cond.instanceMethod yX1_takeNext]
def wsX7_analyse_r6 : List Cond := [Cond.selects RX1 yX1_takeNext yX1_takeNext, Cond.code yX1_takeNext cX1_takeNext 7 none, Cond.fieldLink RX1 49 "ModedMill$Clause" "numbers" "[I", Cond.fieldLink RX1 54 "ModedMill$Clause" "ordered" "[LModedMill$Goal;", Cond.fieldLink RX1 60 "ModedMill$Clause" "chosen" "[LModedMill$Mode;", Cond.fieldLink RX1 64 "ModedMill$Clause" "known" "[I", Cond.methodLink RX1 96 yX1_placeCount, Cond.instanceMethod yX1_placeCount, Cond.selects RX1 yX1_placeCount yX1_placeCount, Cond.code yX1_placeCount cX1_placeCount 2 (some .int), Cond.methodLink RX1 99 yX1_slot, Cond.instanceMethod yX1_slot, Cond.selects RX1 yX1_slot yX1_slot, Cond.code yX1_slot cX1_slot 4 (some .int), Cond.methodLink RX1 102 yX1_goalNumbered, Cond.methodLink RX7 149 yX6_argumentSet, Cond.instanceMethod yX6_argumentSet, Cond.selects RX6 yX6_argumentSet yX6_argumentSet, Cond.code yX6_argumentSet cX6_argumentSet 1 (some .int), Cond.fieldLink RX6 20 "ModedMill$Predicate" "types" "LModedMill$Table;", Cond.methodLink RX6 51 yX9_count, Cond.instanceMethod yX9_count, Cond.selects RX9 yX9_count yX9_count, Cond.initialized RX9]
def wsX7_analyse_r7 : List Cond := [Cond.code yX9_count cX9_count 1 (some .int), Cond.fieldLink RX9 20 "ModedMill$Table" "lines" "I", Cond.methodLink RX7 87 yX7_findSwitch, Cond.static yX7_findSwitch, Cond.code yX7_findSwitch cX7_findSwitch 7 (some .int), Cond.methodLink RX7 181 yX1_goalIn, Cond.instanceMethod yX1_goalIn, Cond.selects RX1 yX1_goalIn yX1_goalIn, Cond.code yX1_goalIn cX1_goalIn 4 (some (.object "ModedMill$Goal")), Cond.methodLink RX7 94 yX7_spreadFaults, Cond.instanceMethod yX7_spreadFaults, Cond.selects RX7 yX7_spreadFaults yX7_spreadFaults, Cond.code yX7_spreadFaults cX7_spreadFaults 4 (some .boolean), Cond.methodLink RX7 185 yX7_choosesBad, Cond.static yX7_choosesBad, Cond.code yX7_choosesBad cX7_choosesBad 6 (some .boolean), Cond.methodLink RX7 188 yX1_placeCount, Cond.methodLink RX7 191 yX1_chosenIn, Cond.instanceMethod yX1_chosenIn, Cond.selects RX1 yX1_chosenIn yX1_chosenIn, Cond.code yX1_chosenIn cX1_chosenIn 4 (some (.object "ModedMill$Mode")), Cond.methodLink RX7 98 yX7_spreadFound, Cond.instanceMethod yX7_spreadFound, Cond.selects RX7 yX7_spreadFound yX7_spreadFound]
def wsX7_analyse_r8 : List Cond := [Cond.code yX7_spreadFound cX7_spreadFound 7 (some .boolean), Cond.methodLink RX7 195 yX7_canModeFail, Cond.static yX7_canModeFail, Cond.code yX7_canModeFail cX7_canModeFail 4 (some .boolean), Cond.methodLink RX7 202 yX7_canClauseFail, Cond.static yX7_canClauseFail, Cond.code yX7_canClauseFail cX7_canClauseFail 8 (some .boolean), Cond.methodLink RX7 222 yX1_knownIn, Cond.instanceMethod yX1_knownIn, Cond.selects RX1 yX1_knownIn yX1_knownIn, Cond.code yX1_knownIn cX1_knownIn 4 (some .int), Cond.methodLink RX7 226 yX7_clashes, Cond.static yX7_clashes, Cond.code yX7_clashes cX7_clashes 5 (some .boolean), Cond.methodLink RX7 229 yX7_canGoalFail, Cond.static yX7_canGoalFail, Cond.code yX7_canGoalFail cX7_canGoalFail 4 (some .boolean), Cond.methodLink RX7 205 yX7_isTypeCovered, Cond.static yX7_isTypeCovered, Cond.code yX7_isTypeCovered cX7_isTypeCovered 5 (some .boolean), Cond.methodLink RX7 208 yX6_typeAt, Cond.instanceMethod yX6_typeAt, Cond.selects RX6 yX6_typeAt yX6_typeAt, Cond.code yX6_typeAt cX6_typeAt 2 (some .int)]
def wsX7_analyse_r9 : List Cond := [Cond.methodLink RX6 55 yX9_get, Cond.instanceMethod yX9_get, Cond.selects RX9 yX9_get yX9_get, Cond.code yX9_get cX9_get 5 (some .int), Cond.fieldLink RX9 9 "ModedMill$Table" "columns" "I", Cond.fieldLink RX9 16 "ModedMill$Table" "cells" "[I", Cond.methodLink RX7 211 yX10_constructorCount, Cond.instanceMethod yX10_constructorCount, Cond.selects RX10 yX10_constructorCount yX10_constructorCount, Cond.initialized RX10, Cond.code yX10_constructorCount cX10_constructorCount 1 (some .int), Cond.fieldLink RX10 20 "ModedMill$Terms" "constructors" "LModedMill$Table;", Cond.methodLink RX10 38 yX9_count, Cond.methodLink RX7 216 yX10_typeOfHead, Cond.instanceMethod yX10_typeOfHead, Cond.selects RX10 yX10_typeOfHead yX10_typeOfHead, Cond.code yX10_typeOfHead cX10_typeOfHead 2 (some .int), Cond.methodLink RX10 42 yX9_get, Cond.methodLink RX7 199 yX7_canModeRepeat, Cond.static yX7_canModeRepeat, Cond.code yX7_canModeRepeat cX7_canModeRepeat 3 (some .boolean), Cond.methodLink RX7 219 yX7_canClauseRepeat, Cond.static yX7_canClauseRepeat, Cond.code yX7_canClauseRepeat cX7_canClauseRepeat 6 (some .boolean)]
def wsX7_analyse : List Cond := .code yX7_analyse cX7_analyse 4 none :: ((wsX7_analyse_r1 ++ (wsX7_analyse_r2 ++ (wsX7_analyse_r3 ++ (wsX7_analyse_r4 ++ (wsX7_analyse_r5 ++ (wsX7_analyse_r6 ++ (wsX7_analyse_r7 ++ (wsX7_analyse_r8 ++ wsX7_analyse_r9)))))))) ++ wsX70 ++ wsX50 ++ wsJx4a65c0 ++ wsX60 ++ wsX10 ++ wsX30 ++ wsX90 ++ wsX100 ++ (vx_atM "java/lang/ArrayIndexOutOfBoundsException" ["java/lang/IndexOutOfBoundsException", "java/lang/RuntimeException", "java/lang/Exception"]).filter goodWord)
def wsX10_typeCount : List Cond := .code yX10_typeCount cX10_typeCount 1 (some .int) :: ([.fieldLink RX10 9 "ModedMill$Terms" "types" "I"] ++ wsX100)
def wsX10_hasType : List Cond := .code yX10_hasType cX10_hasType 2 (some .boolean) :: ([.fieldLink RX10 9 "ModedMill$Terms" "types" "I"] ++ wsX100)
def wsX10_hasConstructor : List Cond := .code yX10_hasConstructor cX10_hasConstructor 2 (some .boolean) :: ([.fieldLink RX10 20 "ModedMill$Terms" "constructors" "LModedMill$Table;", .methodLink RX10 38 yX9_count, .instanceMethod yX9_count, .selects RX9 yX9_count yX9_count, .initialized RX9, .code yX9_count cX9_count 1 (some .int), .fieldLink RX9 20 "ModedMill$Table" "lines" "I"] ++ wsX100 ++ wsX90)
def wsX10_hasTerm : List Cond := .code yX10_hasTerm cX10_hasTerm 2 (some .boolean) :: ([.fieldLink RX10 24 "ModedMill$Terms" "numbered" "LModedMill$Table;", .methodLink RX10 38 yX9_count, .instanceMethod yX9_count, .selects RX9 yX9_count yX9_count, .initialized RX9, .code yX9_count cX9_count 1 (some .int), .fieldLink RX9 20 "ModedMill$Table" "lines" "I"] ++ wsX100 ++ wsX90)
def wsX10_newType : List Cond := .code yX10_newType cX10_newType 1 (some .int) :: ([.fieldLink RX10 9 "ModedMill$Terms" "types" "I"] ++ wsX100)
def wsX11_addType : List Cond := .code yX11_addType cX11_addType 1 (some .int) :: ([.classLink RX11 67 "java/lang/IllegalStateException", .initialized "java/lang/IllegalStateException", .fieldLink RX11 10 "ModedMill" "store" "LModedMill$Terms;", .fieldLink RX11 51 "ModedMill" "isCompiled" "Z", .methodLink RX11 63 yX10_typeCount, .instanceMethod yX10_typeCount, .selects RX10 yX10_typeCount yX10_typeCount, .initialized RX10, .code yX10_typeCount cX10_typeCount 1 (some .int), .fieldLink RX10 9 "ModedMill$Terms" "types" "I", .methodLink RX11 70 yX10_newType, .instanceMethod yX10_newType, .selects RX10 yX10_newType yX10_newType, .code yX10_newType cX10_newType 1 (some .int)] ++ wsX110 ++ wsX100 ++ (vx_at0 RX11 69 "java/lang/IllegalStateException" ["java/lang/RuntimeException", "java/lang/Exception"]).filter goodWord)
def wsX11_isTypeOrNone : List Cond := .code yX11_isTypeOrNone cX11_isTypeOrNone 2 (some .boolean) :: ([.fieldLink RX11 10 "ModedMill" "store" "LModedMill$Terms;", .methodLink RX11 73 yX10_hasType, .instanceMethod yX10_hasType, .selects RX10 yX10_hasType yX10_hasType, .initialized RX10, .code yX10_hasType cX10_hasType 2 (some .boolean), .fieldLink RX10 9 "ModedMill$Terms" "types" "I"] ++ wsX110 ++ wsX100)
def wsX11_addConstructor_r1 : List Cond := [Cond.classLink RX11 80 "java/lang/IndexOutOfBoundsException", Cond.initialized "java/lang/IndexOutOfBoundsException", Cond.classLink RX11 83 "java/lang/IllegalArgumentException", Cond.initialized "java/lang/IllegalArgumentException", Cond.classLink RX11 67 "java/lang/IllegalStateException", Cond.initialized "java/lang/IllegalStateException", Cond.fieldLink RX11 10 "ModedMill" "store" "LModedMill$Terms;", Cond.fieldLink RX11 51 "ModedMill" "isCompiled" "Z", Cond.methodLink RX11 73 yX10_hasType, Cond.instanceMethod yX10_hasType, Cond.selects RX10 yX10_hasType yX10_hasType, Cond.initialized RX10, Cond.code yX10_hasType cX10_hasType 2 (some .boolean), Cond.fieldLink RX10 9 "ModedMill$Terms" "types" "I", Cond.methodLink RX11 77 yX11_isTypeOrNone, Cond.instanceMethod yX11_isTypeOrNone, Cond.selects RX11 yX11_isTypeOrNone yX11_isTypeOrNone, Cond.initialized RX11, Cond.code yX11_isTypeOrNone cX11_isTypeOrNone 2 (some .boolean), Cond.methodLink RX11 86 yX10_constructorCount, Cond.instanceMethod yX10_constructorCount, Cond.selects RX10 yX10_constructorCount yX10_constructorCount, Cond.code yX10_constructorCount cX10_constructorCount 1 (some .int), Cond.fieldLink RX10 20 "ModedMill$Terms" "constructors" "LModedMill$Table;"]
def wsX11_addConstructor_r2 : List Cond := [Cond.methodLink RX10 38 yX9_count, Cond.instanceMethod yX9_count, Cond.selects RX9 yX9_count yX9_count, Cond.initialized RX9, Cond.code yX9_count cX9_count 1 (some .int), Cond.fieldLink RX9 20 "ModedMill$Table" "lines" "I", Cond.methodLink RX11 89 yX10_newConstructor, Cond.instanceMethod yX10_newConstructor, Cond.selects RX10 yX10_newConstructor yX10_newConstructor, Cond.code yX10_newConstructor cX10_newConstructor 4 (some .int), Cond.methodLink RX10 30 yX9_add, Cond.instanceMethod yX9_add, Cond.selects RX9 yX9_add yX9_add, Cond.code yX9_add cX9_add 6 (some .int), Cond.fieldLink RX9 9 "ModedMill$Table" "columns" "I", Cond.fieldLink RX9 16 "ModedMill$Table" "cells" "[I", Cond.constant RX9 15 (1000000), Cond.methodLink RX9 23 yJ7_copyOf_59c91, Cond.static yJ7_copyOf_59c91, Cond.initialized RJ7, Cond.code yJ7_copyOf_59c91 cJ7_copyOf_59c91 3 (some (.array .int)), Cond.methodLink RJ7 316 ⟨"[I", "clone", "()Ljava/lang/Object;"⟩, Cond.sameMethod "[I" "java/lang/Object" "clone" "()Ljava/lang/Object;", Cond.native ⟨"java/lang/Object", "clone", "()Ljava/lang/Object;"⟩]
def wsX11_addConstructor_r3 : List Cond := [Cond.instanceMethod ⟨"java/lang/Object", "clone", "()Ljava/lang/Object;"⟩, Cond.selects "[I" ⟨"[I", "clone", "()Ljava/lang/Object;"⟩ ⟨"java/lang/Object", "clone", "()Ljava/lang/Object;"⟩, Cond.classLink RJ7 317 "[I", Cond.arrayClass .int, Cond.methodLink RJ7 304 Lib.Math.min.name, Cond.static Lib.Math.min.name, Cond.initialized "java/lang/Math", Cond.code Lib.Math.min.name Lib.Math.min.code 2 (some .int), Cond.methodLink RJ7 150 arraycopyName, Cond.native arraycopyName, Cond.static arraycopyName, Cond.initialized "java/lang/System", Cond.methodLink RX9 29 yJ7_fill_fda19, Cond.static yJ7_fill_fda19, Cond.code yJ7_fill_fda19 cJ7_fill_fda19 5 none, Cond.methodLink RJ7 13 yJ7_rangeCheck_23922, Cond.static yJ7_rangeCheck_23922, Cond.code yJ7_rangeCheck_23922 cJ7_rangeCheck_23922 3 none, Cond.classLink RJ7 45 RJ4, Cond.instantiable RJ4 4, Cond.initialized RJ4, Cond.classLink RJ7 68 RJx00060, Cond.instantiable RJx00060 6, Cond.initialized RJx00060]
def wsX11_addConstructor_r4 : List Cond := [Cond.methodLink RX9 33 yX9_set, Cond.instanceMethod yX9_set, Cond.selects RX9 yX9_set yX9_set, Cond.code yX9_set cX9_set 6 none]
def wsX11_addConstructor : List Cond := .code yX11_addConstructor cX11_addConstructor 4 (some .int) :: ((wsX11_addConstructor_r1 ++ (wsX11_addConstructor_r2 ++ (wsX11_addConstructor_r3 ++ wsX11_addConstructor_r4))) ++ wsX110 ++ wsX100 ++ wsX90 ++ wsJ40 ++ wsJx000600 ++ (vx_at0 RX11 82 "java/lang/IndexOutOfBoundsException" ["java/lang/RuntimeException", "java/lang/Exception"]).filter goodWord ++ (vx_at0 RX11 85 "java/lang/IllegalArgumentException" ["java/lang/RuntimeException", "java/lang/Exception"]).filter goodWord ++ (vx_at0 RX11 69 "java/lang/IllegalStateException" ["java/lang/RuntimeException", "java/lang/Exception"]).filter goodWord ++ (vx_atM "java/lang/ArrayIndexOutOfBoundsException" ["java/lang/IndexOutOfBoundsException", "java/lang/RuntimeException", "java/lang/Exception"]).filter goodWord)
def wsX11_term_r1 : List Cond := [Cond.classLink RX11 80 "java/lang/IndexOutOfBoundsException", Cond.initialized "java/lang/IndexOutOfBoundsException", Cond.classLink RX11 83 "java/lang/IllegalArgumentException", Cond.initialized "java/lang/IllegalArgumentException", Cond.classLink RX11 67 "java/lang/IllegalStateException", Cond.initialized "java/lang/IllegalStateException", Cond.fieldLink RX11 10 "ModedMill" "store" "LModedMill$Terms;", Cond.methodLink RX11 93 yX10_hasConstructor, Cond.instanceMethod yX10_hasConstructor, Cond.selects RX10 yX10_hasConstructor yX10_hasConstructor, Cond.initialized RX10, Cond.code yX10_hasConstructor cX10_hasConstructor 2 (some .boolean), Cond.fieldLink RX10 20 "ModedMill$Terms" "constructors" "LModedMill$Table;", Cond.methodLink RX10 38 yX9_count, Cond.instanceMethod yX9_count, Cond.selects RX9 yX9_count yX9_count, Cond.initialized RX9, Cond.code yX9_count cX9_count 1 (some .int), Cond.fieldLink RX9 20 "ModedMill$Table" "lines" "I", Cond.methodLink RX11 96 yX10_hasParts, Cond.instanceMethod yX10_hasParts, Cond.selects RX10 yX10_hasParts yX10_hasParts, Cond.code yX10_hasParts cX10_hasParts 5 (some .boolean), Cond.methodLink RX10 46 yX10_partCount]
def wsX11_term_r2 : List Cond := [Cond.instanceMethod yX10_partCount, Cond.selects RX10 yX10_partCount yX10_partCount, Cond.code yX10_partCount cX10_partCount 2 (some .int), Cond.methodLink RX10 42 yX9_get, Cond.instanceMethod yX9_get, Cond.selects RX9 yX9_get yX9_get, Cond.code yX9_get cX9_get 5 (some .int), Cond.fieldLink RX9 9 "ModedMill$Table" "columns" "I", Cond.fieldLink RX9 16 "ModedMill$Table" "cells" "[I", Cond.methodLink RX10 50 yX10_hasTerm, Cond.instanceMethod yX10_hasTerm, Cond.selects RX10 yX10_hasTerm yX10_hasTerm, Cond.code yX10_hasTerm cX10_hasTerm 2 (some .boolean), Cond.fieldLink RX10 24 "ModedMill$Terms" "numbered" "LModedMill$Table;", Cond.methodLink RX11 100 yX10_fits, Cond.instanceMethod yX10_fits, Cond.selects RX10 yX10_fits yX10_fits, Cond.code yX10_fits cX10_fits 4 (some .boolean), Cond.methodLink RX10 54 yX10_fitsPart, Cond.instanceMethod yX10_fitsPart, Cond.selects RX10 yX10_fitsPart yX10_fitsPart, Cond.code yX10_fitsPart cX10_fitsPart 5 (some .boolean), Cond.methodLink RX10 58 yX10_partType, Cond.instanceMethod yX10_partType]
def wsX11_term_r3 : List Cond := [Cond.selects RX10 yX10_partType yX10_partType, Cond.code yX10_partType cX10_partType 3 (some .int), Cond.methodLink RX10 61 yX10_headOf, Cond.instanceMethod yX10_headOf, Cond.selects RX10 yX10_headOf yX10_headOf, Cond.code yX10_headOf cX10_headOf 2 (some .int), Cond.methodLink RX10 64 yX10_typeOfHead, Cond.instanceMethod yX10_typeOfHead, Cond.selects RX10 yX10_typeOfHead yX10_typeOfHead, Cond.code yX10_typeOfHead cX10_typeOfHead 2 (some .int), Cond.methodLink RX11 103 yX10_make, Cond.instanceMethod yX10_make, Cond.selects RX10 yX10_make yX10_make, Cond.code yX10_make cX10_make 8 (some .int), Cond.fieldLink RX10 27 "ModedMill$Terms" "chains" "LModedMill$Table;", Cond.fieldLink RX10 34 "ModedMill$Terms" "sizes" "[J", Cond.methodLink RX10 70 yX10_find, Cond.instanceMethod yX10_find, Cond.selects RX10 yX10_find yX10_find, Cond.code yX10_find cX10_find 7 (some .int), Cond.methodLink RX10 67 yX10_chainOf, Cond.static yX10_chainOf, Cond.code yX10_chainOf cX10_chainOf 3 (some .int), Cond.methodLink RX10 30 yX9_add]
def wsX11_term_r4 : List Cond := [Cond.instanceMethod yX9_add, Cond.selects RX9 yX9_add yX9_add, Cond.code yX9_add cX9_add 6 (some .int), Cond.constant RX9 15 (1000000), Cond.methodLink RX9 23 yJ7_copyOf_59c91, Cond.static yJ7_copyOf_59c91, Cond.initialized RJ7, Cond.code yJ7_copyOf_59c91 cJ7_copyOf_59c91 3 (some (.array .int)), Cond.methodLink RJ7 316 ⟨"[I", "clone", "()Ljava/lang/Object;"⟩, Cond.sameMethod "[I" "java/lang/Object" "clone" "()Ljava/lang/Object;", Cond.native ⟨"java/lang/Object", "clone", "()Ljava/lang/Object;"⟩, Cond.instanceMethod ⟨"java/lang/Object", "clone", "()Ljava/lang/Object;"⟩, Cond.selects "[I" ⟨"[I", "clone", "()Ljava/lang/Object;"⟩ ⟨"java/lang/Object", "clone", "()Ljava/lang/Object;"⟩, Cond.classLink RJ7 317 "[I", Cond.arrayClass .int, Cond.methodLink RJ7 304 Lib.Math.min.name, Cond.static Lib.Math.min.name, Cond.initialized "java/lang/Math", Cond.code Lib.Math.min.name Lib.Math.min.code 2 (some .int), Cond.methodLink RJ7 150 arraycopyName, Cond.native arraycopyName, Cond.static arraycopyName, Cond.initialized "java/lang/System", Cond.methodLink RX9 29 yJ7_fill_fda19]
def wsX11_term_r5 : List Cond := [Cond.static yJ7_fill_fda19, Cond.code yJ7_fill_fda19 cJ7_fill_fda19 5 none, Cond.methodLink RJ7 13 yJ7_rangeCheck_23922, Cond.static yJ7_rangeCheck_23922, Cond.code yJ7_rangeCheck_23922 cJ7_rangeCheck_23922 3 none, Cond.classLink RJ7 45 RJ4, Cond.instantiable RJ4 4, Cond.initialized RJ4, Cond.classLink RJ7 68 RJx00060, Cond.instantiable RJx00060 6, Cond.initialized RJx00060, Cond.methodLink RX9 33 yX9_set, Cond.instanceMethod yX9_set, Cond.selects RX9 yX9_set yX9_set, Cond.code yX9_set cX9_set 6 none, Cond.methodLink RX10 73 yX9_set, Cond.methodLink RX10 77 yX10_size, Cond.instanceMethod yX10_size, Cond.selects RX10 yX10_size yX10_size, Cond.code yX10_size cX10_size 2 (some .long)]
def wsX11_term : List Cond := .code yX11_term cX11_term 5 (some .int) :: ((wsX11_term_r1 ++ (wsX11_term_r2 ++ (wsX11_term_r3 ++ (wsX11_term_r4 ++ wsX11_term_r5)))) ++ wsX110 ++ wsX100 ++ wsX90 ++ wsJ40 ++ wsJx000600 ++ (vx_at0 RX11 82 "java/lang/IndexOutOfBoundsException" ["java/lang/RuntimeException", "java/lang/Exception"]).filter goodWord ++ (vx_at0 RX11 85 "java/lang/IllegalArgumentException" ["java/lang/RuntimeException", "java/lang/Exception"]).filter goodWord ++ (vx_at0 RX11 69 "java/lang/IllegalStateException" ["java/lang/RuntimeException", "java/lang/Exception"]).filter goodWord ++ (vx_atM "java/lang/ArrayIndexOutOfBoundsException" ["java/lang/IndexOutOfBoundsException", "java/lang/RuntimeException", "java/lang/Exception"]).filter goodWord)
def wsX11_refuseMissingTerm : List Cond := .code yX11_refuseMissingTerm cX11_refuseMissingTerm 2 none :: ([.classLink RX11 80 "java/lang/IndexOutOfBoundsException", .initialized "java/lang/IndexOutOfBoundsException", .fieldLink RX11 10 "ModedMill" "store" "LModedMill$Terms;", .methodLink RX11 346 yX10_hasTerm, .instanceMethod yX10_hasTerm, .selects RX10 yX10_hasTerm yX10_hasTerm, .initialized RX10, .code yX10_hasTerm cX10_hasTerm 2 (some .boolean), .fieldLink RX10 24 "ModedMill$Terms" "numbered" "LModedMill$Table;", .methodLink RX10 38 yX9_count, .instanceMethod yX9_count, .selects RX9 yX9_count yX9_count, .initialized RX9, .code yX9_count cX9_count 1 (some .int), .fieldLink RX9 20 "ModedMill$Table" "lines" "I"] ++ wsX110 ++ wsX100 ++ wsX90 ++ (vx_at0 RX11 82 "java/lang/IndexOutOfBoundsException" ["java/lang/RuntimeException", "java/lang/Exception"]).filter goodWord)
def wsX11_constructorOf_r1 : List Cond := [Cond.fieldLink RX11 10 "ModedMill" "store" "LModedMill$Terms;", Cond.methodLink RX11 106 yX11_refuseMissingTerm, Cond.instanceMethod yX11_refuseMissingTerm, Cond.selects RX11 yX11_refuseMissingTerm yX11_refuseMissingTerm, Cond.initialized RX11, Cond.code yX11_refuseMissingTerm cX11_refuseMissingTerm 2 none, Cond.classLink RX11 80 "java/lang/IndexOutOfBoundsException", Cond.initialized "java/lang/IndexOutOfBoundsException", Cond.methodLink RX11 346 yX10_hasTerm, Cond.instanceMethod yX10_hasTerm, Cond.selects RX10 yX10_hasTerm yX10_hasTerm, Cond.initialized RX10, Cond.code yX10_hasTerm cX10_hasTerm 2 (some .boolean), Cond.fieldLink RX10 24 "ModedMill$Terms" "numbered" "LModedMill$Table;", Cond.methodLink RX10 38 yX9_count, Cond.instanceMethod yX9_count, Cond.selects RX9 yX9_count yX9_count, Cond.initialized RX9, Cond.code yX9_count cX9_count 1 (some .int), Cond.fieldLink RX9 20 "ModedMill$Table" "lines" "I", Cond.methodLink RX11 110 yX10_headOf, Cond.instanceMethod yX10_headOf, Cond.selects RX10 yX10_headOf yX10_headOf, Cond.code yX10_headOf cX10_headOf 2 (some .int)]
def wsX11_constructorOf_r2 : List Cond := [Cond.methodLink RX10 42 yX9_get, Cond.instanceMethod yX9_get, Cond.selects RX9 yX9_get yX9_get, Cond.code yX9_get cX9_get 5 (some .int), Cond.fieldLink RX9 9 "ModedMill$Table" "columns" "I", Cond.fieldLink RX9 16 "ModedMill$Table" "cells" "[I"]
def wsX11_constructorOf : List Cond := .code yX11_constructorOf cX11_constructorOf 2 (some .int) :: ((wsX11_constructorOf_r1 ++ wsX11_constructorOf_r2) ++ wsX110 ++ wsX100 ++ wsX90 ++ (vx_at0 RX11 82 "java/lang/IndexOutOfBoundsException" ["java/lang/RuntimeException", "java/lang/Exception"]).filter goodWord ++ (vx_atM "java/lang/ArrayIndexOutOfBoundsException" ["java/lang/IndexOutOfBoundsException", "java/lang/RuntimeException", "java/lang/Exception"]).filter goodWord)
def wsX11_partOf_r1 : List Cond := [Cond.classLink RX11 117 "java/util/NoSuchElementException", Cond.initialized "java/util/NoSuchElementException", Cond.fieldLink RX11 10 "ModedMill" "store" "LModedMill$Terms;", Cond.methodLink RX11 106 yX11_refuseMissingTerm, Cond.instanceMethod yX11_refuseMissingTerm, Cond.selects RX11 yX11_refuseMissingTerm yX11_refuseMissingTerm, Cond.initialized RX11, Cond.code yX11_refuseMissingTerm cX11_refuseMissingTerm 2 none, Cond.classLink RX11 80 "java/lang/IndexOutOfBoundsException", Cond.initialized "java/lang/IndexOutOfBoundsException", Cond.methodLink RX11 346 yX10_hasTerm, Cond.instanceMethod yX10_hasTerm, Cond.selects RX10 yX10_hasTerm yX10_hasTerm, Cond.initialized RX10, Cond.code yX10_hasTerm cX10_hasTerm 2 (some .boolean), Cond.fieldLink RX10 24 "ModedMill$Terms" "numbered" "LModedMill$Table;", Cond.methodLink RX10 38 yX9_count, Cond.instanceMethod yX9_count, Cond.selects RX9 yX9_count yX9_count, Cond.initialized RX9, Cond.code yX9_count cX9_count 1 (some .int), Cond.fieldLink RX9 20 "ModedMill$Table" "lines" "I", Cond.methodLink RX11 110 yX10_headOf, Cond.instanceMethod yX10_headOf]
def wsX11_partOf_r2 : List Cond := [Cond.selects RX10 yX10_headOf yX10_headOf, Cond.code yX10_headOf cX10_headOf 2 (some .int), Cond.methodLink RX10 42 yX9_get, Cond.instanceMethod yX9_get, Cond.selects RX9 yX9_get yX9_get, Cond.code yX9_get cX9_get 5 (some .int), Cond.fieldLink RX9 9 "ModedMill$Table" "columns" "I", Cond.fieldLink RX9 16 "ModedMill$Table" "cells" "[I", Cond.methodLink RX11 114 yX10_partCount, Cond.instanceMethod yX10_partCount, Cond.selects RX10 yX10_partCount yX10_partCount, Cond.code yX10_partCount cX10_partCount 2 (some .int), Cond.fieldLink RX10 20 "ModedMill$Terms" "constructors" "LModedMill$Table;", Cond.methodLink RX11 120 yX10_part, Cond.instanceMethod yX10_part, Cond.selects RX10 yX10_part yX10_part, Cond.code yX10_part cX10_part 3 (some .int)]
def wsX11_partOf : List Cond := .code yX11_partOf cX11_partOf 3 (some .int) :: ((wsX11_partOf_r1 ++ wsX11_partOf_r2) ++ wsX110 ++ wsX100 ++ wsX90 ++ (vx_at0 RX11 119 "java/util/NoSuchElementException" ["java/lang/RuntimeException", "java/lang/Exception"]).filter goodWord ++ (vx_at0 RX11 82 "java/lang/IndexOutOfBoundsException" ["java/lang/RuntimeException", "java/lang/Exception"]).filter goodWord ++ (vx_atM "java/lang/ArrayIndexOutOfBoundsException" ["java/lang/IndexOutOfBoundsException", "java/lang/RuntimeException", "java/lang/Exception"]).filter goodWord)
def wsX11_sizeOf_r1 : List Cond := [Cond.fieldLink RX11 10 "ModedMill" "store" "LModedMill$Terms;", Cond.methodLink RX11 106 yX11_refuseMissingTerm, Cond.instanceMethod yX11_refuseMissingTerm, Cond.selects RX11 yX11_refuseMissingTerm yX11_refuseMissingTerm, Cond.initialized RX11, Cond.code yX11_refuseMissingTerm cX11_refuseMissingTerm 2 none, Cond.classLink RX11 80 "java/lang/IndexOutOfBoundsException", Cond.initialized "java/lang/IndexOutOfBoundsException", Cond.methodLink RX11 346 yX10_hasTerm, Cond.instanceMethod yX10_hasTerm, Cond.selects RX10 yX10_hasTerm yX10_hasTerm, Cond.initialized RX10, Cond.code yX10_hasTerm cX10_hasTerm 2 (some .boolean), Cond.fieldLink RX10 24 "ModedMill$Terms" "numbered" "LModedMill$Table;", Cond.methodLink RX10 38 yX9_count, Cond.instanceMethod yX9_count, Cond.selects RX9 yX9_count yX9_count, Cond.initialized RX9, Cond.code yX9_count cX9_count 1 (some .int), Cond.fieldLink RX9 20 "ModedMill$Table" "lines" "I", Cond.methodLink RX11 124 yX10_size, Cond.instanceMethod yX10_size, Cond.selects RX10 yX10_size yX10_size, Cond.code yX10_size cX10_size 2 (some .long)]
def wsX11_sizeOf_r2 : List Cond := [Cond.fieldLink RX10 34 "ModedMill$Terms" "sizes" "[J"]
def wsX11_sizeOf : List Cond := .code yX11_sizeOf cX11_sizeOf 2 (some .long) :: ((wsX11_sizeOf_r1 ++ wsX11_sizeOf_r2) ++ wsX110 ++ wsX100 ++ wsX90 ++ (vx_at0 RX11 82 "java/lang/IndexOutOfBoundsException" ["java/lang/RuntimeException", "java/lang/Exception"]).filter goodWord ++ (vx_atM "java/lang/ArrayIndexOutOfBoundsException" ["java/lang/IndexOutOfBoundsException", "java/lang/RuntimeException", "java/lang/Exception"]).filter goodWord)
def wsX11_addPredicate_r1 : List Cond := [Cond.classLink RX11 80 "java/lang/IndexOutOfBoundsException", Cond.initialized "java/lang/IndexOutOfBoundsException", Cond.classLink RX11 83 "java/lang/IllegalArgumentException", Cond.initialized "java/lang/IllegalArgumentException", Cond.classLink RX11 67 "java/lang/IllegalStateException", Cond.initialized "java/lang/IllegalStateException", Cond.fieldLink RX11 19 "ModedMill" "program" "LModedMill$Program;", Cond.fieldLink RX11 51 "ModedMill" "isCompiled" "Z", Cond.methodLink RX11 77 yX11_isTypeOrNone, Cond.instanceMethod yX11_isTypeOrNone, Cond.selects RX11 yX11_isTypeOrNone yX11_isTypeOrNone, Cond.initialized RX11, Cond.code yX11_isTypeOrNone cX11_isTypeOrNone 2 (some .boolean), Cond.fieldLink RX11 10 "ModedMill" "store" "LModedMill$Terms;", Cond.methodLink RX11 73 yX10_hasType, Cond.instanceMethod yX10_hasType, Cond.selects RX10 yX10_hasType yX10_hasType, Cond.initialized RX10, Cond.code yX10_hasType cX10_hasType 2 (some .boolean), Cond.fieldLink RX10 9 "ModedMill$Terms" "types" "I", Cond.methodLink RX11 128 yX7_predicateCount, Cond.instanceMethod yX7_predicateCount, Cond.selects RX7 yX7_predicateCount yX7_predicateCount, Cond.initialized RX7]
def wsX11_addPredicate_r2 : List Cond := [Cond.code yX7_predicateCount cX7_predicateCount 1 (some .int), Cond.fieldLink RX7 12 "ModedMill$Program" "predicates" "Ljava/util/ArrayList;", Cond.methodLink RX7 24 yJx4a65c_size_8abf5, Cond.instanceMethod yJx4a65c_size_8abf5, Cond.selects RJx4a65c yJx4a65c_size_8abf5 yJx4a65c_size_8abf5, Cond.initialized RJx4a65c, Cond.code yJx4a65c_size_8abf5 cJx4a65c_size_8abf5 1 (some .int), Cond.fieldLink RJx4a65c 48 "java/util/ArrayList" "size" "I", Cond.methodLink RX11 131 yX7_newPredicate, Cond.instanceMethod yX7_newPredicate, Cond.selects RX7 yX7_newPredicate yX7_newPredicate, Cond.code yX7_newPredicate cX7_newPredicate 4 (some .int), Cond.classLink RX7 32 RX6, Cond.instantiable RX6 5, Cond.initialized RX6, Cond.methodLink RX7 44 yX6_init, Cond.instanceMethod yX6_init, Cond.code yX6_init cX6_init 7 none, Cond.methodLink RX6 3 objectInit, Cond.instanceMethod objectInit, Cond.code objectInit ⟨#[0xb1]⟩ 1 none, Cond.fieldLink RX6 9 "ModedMill$Predicate" "number" "I", Cond.classLink RX6 15 RX9, Cond.instantiable RX9 3]
def wsX11_addPredicate_r3 : List Cond := [Cond.initialized RX9, Cond.fieldLink RX6 20 "ModedMill$Predicate" "types" "LModedMill$Table;", Cond.classLink RX6 32 RJx4a65c, Cond.instantiable RJx4a65c 3, Cond.fieldLink RX6 35 "ModedMill$Predicate" "modes" "Ljava/util/ArrayList;", Cond.fieldLink RX6 39 "ModedMill$Predicate" "clauses" "Ljava/util/ArrayList;", Cond.classLink RX6 42 RX3, Cond.instantiable RX3 4, Cond.initialized RX3, Cond.fieldLink RX6 47 "ModedMill$Predicate" "question" "LModedMill$Goal;", Cond.methodLink RX6 17 yX9_init, Cond.instanceMethod yX9_init, Cond.code yX9_init cX9_init 3 none, Cond.methodLink RX9 3 objectInit, Cond.fieldLink RX9 9 "ModedMill$Table" "columns" "I", Cond.constant RX9 15 (1000000), Cond.arrayClass .int, Cond.fieldLink RX9 16 "ModedMill$Table" "cells" "[I", Cond.fieldLink RX9 20 "ModedMill$Table" "lines" "I", Cond.static yX11_pick, Cond.code yX11_pick cX11_pick 4 (some .int), Cond.methodLink RX6 28 yX9_add, Cond.instanceMethod yX9_add, Cond.selects RX9 yX9_add yX9_add]
def wsX11_addPredicate_r4 : List Cond := [Cond.code yX9_add cX9_add 6 (some .int), Cond.methodLink RX9 23 yJ7_copyOf_59c91, Cond.static yJ7_copyOf_59c91, Cond.initialized RJ7, Cond.code yJ7_copyOf_59c91 cJ7_copyOf_59c91 3 (some (.array .int)), Cond.methodLink RJ7 316 ⟨"[I", "clone", "()Ljava/lang/Object;"⟩, Cond.sameMethod "[I" "java/lang/Object" "clone" "()Ljava/lang/Object;", Cond.native ⟨"java/lang/Object", "clone", "()Ljava/lang/Object;"⟩, Cond.instanceMethod ⟨"java/lang/Object", "clone", "()Ljava/lang/Object;"⟩, Cond.selects "[I" ⟨"[I", "clone", "()Ljava/lang/Object;"⟩ ⟨"java/lang/Object", "clone", "()Ljava/lang/Object;"⟩, Cond.classLink RJ7 317 "[I", Cond.methodLink RJ7 304 Lib.Math.min.name, Cond.static Lib.Math.min.name, Cond.initialized "java/lang/Math", Cond.code Lib.Math.min.name Lib.Math.min.code 2 (some .int), Cond.methodLink RJ7 150 arraycopyName, Cond.native arraycopyName, Cond.static arraycopyName, Cond.initialized "java/lang/System", Cond.methodLink RX9 29 yJ7_fill_fda19, Cond.static yJ7_fill_fda19, Cond.code yJ7_fill_fda19 cJ7_fill_fda19 5 none, Cond.methodLink RJ7 13 yJ7_rangeCheck_23922, Cond.static yJ7_rangeCheck_23922]
def wsX11_addPredicate_r5 : List Cond := [Cond.code yJ7_rangeCheck_23922 cJ7_rangeCheck_23922 3 none, Cond.classLink RJ7 45 RJ4, Cond.instantiable RJ4 4, Cond.initialized RJ4, Cond.classLink RJ7 68 RJx00060, Cond.instantiable RJx00060 6, Cond.initialized RJx00060, Cond.methodLink RX9 33 yX9_set, Cond.instanceMethod yX9_set, Cond.selects RX9 yX9_set yX9_set, Cond.code yX9_set cX9_set 6 none, Cond.methodLink RX6 34 yJx4a65c_init_da8c8, Cond.instanceMethod yJx4a65c_init_da8c8, Cond.code yJx4a65c_init_da8c8 cJx4a65c_init_da8c8 1 none, Cond.fieldLink RJx4a65c 39 "java/util/ArrayList" "DEFAULTCAPACITY_EMPTY_ELEMENTDATA" "[Ljava/lang/Object;", Cond.fieldLink RJx4a65c 9 "java/util/ArrayList" "elementData" "[Ljava/lang/Object;", Cond.methodLink RJx4a65c 1 yJxc12de_init_da8c8, Cond.instanceMethod yJxc12de_init_da8c8, Cond.initialized RJxc12de, Cond.code yJxc12de_init_da8c8 cJxc12de_init_da8c8 1 none, Cond.fieldLink RJxc12de 7 "java/util/AbstractList" "modCount" "I", Cond.methodLink RJxc12de 1 yJxa1e45_init_da8c8, Cond.instanceMethod yJxa1e45_init_da8c8, Cond.initialized RJxa1e45]
def wsX11_addPredicate_r6 : List Cond := [Cond.code yJxa1e45_init_da8c8 cJxa1e45_init_da8c8 1 none, Cond.methodLink RJxa1e45 1 objectInit, Cond.methodLink RX6 44 yX3_init, Cond.instanceMethod yX3_init, Cond.code yX3_init cX3_init 7 none, Cond.methodLink RX3 3 objectInit, Cond.fieldLink RX3 9 "ModedMill$Goal" "kind" "I", Cond.fieldLink RX3 15 "ModedMill$Goal" "subject" "I", Cond.fieldLink RX3 18 "ModedMill$Goal" "count" "I", Cond.fieldLink RX3 21 "ModedMill$Goal" "variables" "[I", Cond.methodLink RX7 47 yJx4a65c_add_9ea2d, Cond.instanceMethod yJx4a65c_add_9ea2d, Cond.selects RJx4a65c yJx4a65c_add_9ea2d yJx4a65c_add_9ea2d, Cond.code yJx4a65c_add_9ea2d cJx4a65c_add_9ea2d 2 (some .boolean), Cond.fieldLink RJx4a65c 63 "java/util/ArrayList" "modCount" "I", Cond.sameField "java/util/ArrayList" "java/util/AbstractList" "modCount" "I", Cond.methodLink RJx4a65c 131 yJx4a65c_add_72be8, Cond.instanceMethod yJx4a65c_add_72be8, Cond.selects RJx4a65c yJx4a65c_add_72be8 yJx4a65c_add_72be8, Cond.code yJx4a65c_add_72be8 cJx4a65c_add_72be8 4 none, Cond.methodLink RJx4a65c 129 yJx4a65c_grow_d5877, Cond.instanceMethod yJx4a65c_grow_d5877, Cond.selects RJx4a65c yJx4a65c_grow_d5877 yJx4a65c_grow_d5877, Cond.code yJx4a65c_grow_d5877 cJx4a65c_grow_d5877 1 (some (.array (.object "java/lang/Object")))]
def wsX11_addPredicate_r7 : List Cond := [Cond.methodLink RJx4a65c 69 yJx4a65c_grow_92f84, Cond.instanceMethod yJx4a65c_grow_92f84, Cond.selects RJx4a65c yJx4a65c_grow_92f84 yJx4a65c_grow_92f84, Cond.code yJx4a65c_grow_92f84 cJx4a65c_grow_92f84 4 (some (.array (.object "java/lang/Object"))), Cond.methodLink RJx4a65c 79 Lib.Math.max.name, Cond.static Lib.Math.max.name, Cond.code Lib.Math.max.name Lib.Math.max.code 2 (some .int), Cond.classLink RJx4a65c 7 "java/lang/Object", Cond.methodLink RJx4a65c 73 yJ8_newLength_cabcc, Cond.static yJ8_newLength_cabcc, Cond.initialized RJ8, Cond.code yJ8_newLength_cabcc cJ8_newLength_cabcc 4 (some .int), Cond.methodLink RJ8 194 Lib.Math.max.name, Cond.constant RJ8 200 (2147483639), Cond.methodLink RJ8 201 yJ8_hugeLength_7cf53, Cond.static yJ8_hugeLength_7cf53, Cond.code yJ8_hugeLength_7cf53 cJ8_hugeLength_7cf53 3 (some .int), Cond.methodLink RJx4a65c 66 yJ7_copyOf_1904c, Cond.static yJ7_copyOf_1904c, Cond.code yJ7_copyOf_1904c cJ7_copyOf_1904c 2 (some (.array (.object "java/lang/Object"))), Cond.methodLink RJ7 86 ⟨"java/lang/Object", "getClass", "()Ljava/lang/Class;"⟩, Cond.selects "[Ljava/lang/Object;" ⟨"java/lang/Object", "getClass", "()Ljava/lang/Class;"⟩ ⟨"java/lang/Object", "getClass", "()Ljava/lang/Class;"⟩, Cond.instanceMethod ⟨"java/lang/Object", "getClass", "()Ljava/lang/Class;"⟩, Cond.native ⟨"java/lang/Object", "getClass", "()Ljava/lang/Class;"⟩]
def wsX11_addPredicate_r8 : List Cond := [Cond.methodLink RJ7 300 yJ7_copyOf_6403c, Cond.static yJ7_copyOf_6403c, Cond.code yJ7_copyOf_6403c cJ7_copyOf_6403c 4 (some (.array (.object "java/lang/Object"))), Cond.classLink RJ7 110 "[Ljava/lang/Object;", Cond.classLink RJ7 2 "java/lang/Object"]
def wsX11_addPredicate : List Cond := .code yX11_addPredicate cX11_addPredicate 4 (some .int) :: ((wsX11_addPredicate_r1 ++ (wsX11_addPredicate_r2 ++ (wsX11_addPredicate_r3 ++ (wsX11_addPredicate_r4 ++ (wsX11_addPredicate_r5 ++ (wsX11_addPredicate_r6 ++ (wsX11_addPredicate_r7 ++ wsX11_addPredicate_r8))))))) ++ wsX110 ++ wsX100 ++ wsX70 ++ wsJx4a65c0 ++ wsX60 ++ wsX90 ++ wsX30 ++ wsJ40 ++ wsJx000600 ++ (vx_at0 RX11 82 "java/lang/IndexOutOfBoundsException" ["java/lang/RuntimeException", "java/lang/Exception"]).filter goodWord ++ (vx_at0 RX11 85 "java/lang/IllegalArgumentException" ["java/lang/RuntimeException", "java/lang/Exception"]).filter goodWord ++ (vx_at0 RX11 69 "java/lang/IllegalStateException" ["java/lang/RuntimeException", "java/lang/Exception"]).filter goodWord ++ (vx_atM "java/lang/ArrayIndexOutOfBoundsException" ["java/lang/IndexOutOfBoundsException", "java/lang/RuntimeException", "java/lang/Exception"]).filter goodWord)
def wsX11_isPromise : List Cond := .code yX11_isPromise cX11_isPromise 1 (some .boolean) :: ([])
def wsX11_addMode_r1 : List Cond := [Cond.classLink RX11 80 "java/lang/IndexOutOfBoundsException", Cond.initialized "java/lang/IndexOutOfBoundsException", Cond.classLink RX11 83 "java/lang/IllegalArgumentException", Cond.initialized "java/lang/IllegalArgumentException", Cond.classLink RX11 67 "java/lang/IllegalStateException", Cond.initialized "java/lang/IllegalStateException", Cond.fieldLink RX11 19 "ModedMill" "program" "LModedMill$Program;", Cond.fieldLink RX11 51 "ModedMill" "isCompiled" "Z", Cond.methodLink RX11 134 yX7_predicateAt, Cond.instanceMethod yX7_predicateAt, Cond.selects RX7 yX7_predicateAt yX7_predicateAt, Cond.initialized RX7, Cond.code yX7_predicateAt cX7_predicateAt 2 (some (.object "ModedMill$Predicate")), Cond.fieldLink RX7 12 "ModedMill$Program" "predicates" "Ljava/util/ArrayList;", Cond.classLink RX7 32 "ModedMill$Predicate", Cond.methodLink RX7 24 yJx4a65c_size_8abf5, Cond.instanceMethod yJx4a65c_size_8abf5, Cond.selects RJx4a65c yJx4a65c_size_8abf5 yJx4a65c_size_8abf5, Cond.initialized RJx4a65c, Cond.code yJx4a65c_size_8abf5 cJx4a65c_size_8abf5 1 (some .int), Cond.fieldLink RJx4a65c 48 "java/util/ArrayList" "size" "I", Cond.methodLink RX7 28 yJx4a65c_get_915e3, Cond.instanceMethod yJx4a65c_get_915e3, Cond.selects RJx4a65c yJx4a65c_get_915e3 yJx4a65c_get_915e3]
def wsX11_addMode_r2 : List Cond := [Cond.code yJx4a65c_get_915e3 cJx4a65c_get_915e3 2 (some (.object "java/lang/Object")), Cond.methodLink RJx4a65c 118 yJ15_checkIndex_7cf53, Cond.static yJ15_checkIndex_7cf53, Cond.initialized RJ15, Cond.code yJ15_checkIndex_7cf53 cJ15_checkIndex_7cf53 2 (some .int), Cond.methodLink RJ15 105 yJ3_checkIndex_8e157, Cond.static yJ3_checkIndex_8e157, Cond.initialized RJ3, Cond.code yJ3_checkIndex_8e157 cJ3_checkIndex_8e157 3 (some .int), Cond.methodLink RJx4a65c 123 yJx4a65c_elementData_915e3, Cond.instanceMethod yJx4a65c_elementData_915e3, Cond.selects RJx4a65c yJx4a65c_elementData_915e3 yJx4a65c_elementData_915e3, Cond.code yJx4a65c_elementData_915e3 cJx4a65c_elementData_915e3 2 (some (.object "java/lang/Object")), Cond.fieldLink RJx4a65c 9 "java/util/ArrayList" "elementData" "[Ljava/lang/Object;", Cond.methodLink RX11 138 yX6_argumentSet, Cond.instanceMethod yX6_argumentSet, Cond.selects RX6 yX6_argumentSet yX6_argumentSet, Cond.initialized RX6, Cond.code yX6_argumentSet cX6_argumentSet 1 (some .int), Cond.fieldLink RX6 20 "ModedMill$Predicate" "types" "LModedMill$Table;", Cond.methodLink RX6 51 yX9_count, Cond.instanceMethod yX9_count, Cond.selects RX9 yX9_count yX9_count, Cond.initialized RX9]
def wsX11_addMode_r3 : List Cond := [Cond.code yX9_count cX9_count 1 (some .int), Cond.fieldLink RX9 20 "ModedMill$Table" "lines" "I", Cond.methodLink RX11 143 yX11_isPromise, Cond.static yX11_isPromise, Cond.initialized RX11, Cond.code yX11_isPromise cX11_isPromise 1 (some .boolean), Cond.methodLink RX11 147 yX6_modeCount, Cond.instanceMethod yX6_modeCount, Cond.selects RX6 yX6_modeCount yX6_modeCount, Cond.code yX6_modeCount cX6_modeCount 1 (some .int), Cond.fieldLink RX6 35 "ModedMill$Predicate" "modes" "Ljava/util/ArrayList;", Cond.methodLink RX6 59 yJx4a65c_size_8abf5, Cond.methodLink RX11 150 yX7_newMode, Cond.instanceMethod yX7_newMode, Cond.selects RX7 yX7_newMode yX7_newMode, Cond.code yX7_newMode cX7_newMode 5 (some .int), Cond.classLink RX7 51 RX5, Cond.instantiable RX5 9, Cond.initialized RX5, Cond.fieldLink RX7 18 "ModedMill$Program" "modes" "Ljava/util/ArrayList;", Cond.methodLink RX7 54 yX5_init, Cond.instanceMethod yX5_init, Cond.code yX5_init cX5_init 5 none, Cond.methodLink RX5 3 objectInit]
def wsX11_addMode_r4 : List Cond := [Cond.instanceMethod objectInit, Cond.code objectInit ⟨#[0xb1]⟩ 1 none, Cond.fieldLink RX5 9 "ModedMill$Mode" "predicate" "LModedMill$Predicate;", Cond.fieldLink RX5 15 "ModedMill$Mode" "number" "I", Cond.fieldLink RX5 19 "ModedMill$Mode" "inputs" "I", Cond.fieldLink RX5 22 "ModedMill$Mode" "promise" "C", Cond.fieldLink RX5 26 "ModedMill$Mode" "switchPlace" "I", Cond.methodLink RX7 47 yJx4a65c_add_9ea2d, Cond.instanceMethod yJx4a65c_add_9ea2d, Cond.selects RJx4a65c yJx4a65c_add_9ea2d yJx4a65c_add_9ea2d, Cond.code yJx4a65c_add_9ea2d cJx4a65c_add_9ea2d 2 (some .boolean), Cond.fieldLink RJx4a65c 63 "java/util/ArrayList" "modCount" "I", Cond.sameField "java/util/ArrayList" "java/util/AbstractList" "modCount" "I", Cond.methodLink RJx4a65c 131 yJx4a65c_add_72be8, Cond.instanceMethod yJx4a65c_add_72be8, Cond.selects RJx4a65c yJx4a65c_add_72be8 yJx4a65c_add_72be8, Cond.code yJx4a65c_add_72be8 cJx4a65c_add_72be8 4 none, Cond.methodLink RJx4a65c 129 yJx4a65c_grow_d5877, Cond.instanceMethod yJx4a65c_grow_d5877, Cond.selects RJx4a65c yJx4a65c_grow_d5877 yJx4a65c_grow_d5877, Cond.code yJx4a65c_grow_d5877 cJx4a65c_grow_d5877 1 (some (.array (.object "java/lang/Object"))), Cond.methodLink RJx4a65c 69 yJx4a65c_grow_92f84, Cond.instanceMethod yJx4a65c_grow_92f84, Cond.selects RJx4a65c yJx4a65c_grow_92f84 yJx4a65c_grow_92f84]
def wsX11_addMode_r5 : List Cond := [Cond.code yJx4a65c_grow_92f84 cJx4a65c_grow_92f84 4 (some (.array (.object "java/lang/Object"))), Cond.fieldLink RJx4a65c 39 "java/util/ArrayList" "DEFAULTCAPACITY_EMPTY_ELEMENTDATA" "[Ljava/lang/Object;", Cond.methodLink RJx4a65c 79 Lib.Math.max.name, Cond.static Lib.Math.max.name, Cond.initialized "java/lang/Math", Cond.code Lib.Math.max.name Lib.Math.max.code 2 (some .int), Cond.classLink RJx4a65c 7 "java/lang/Object", Cond.methodLink RJx4a65c 73 yJ8_newLength_cabcc, Cond.static yJ8_newLength_cabcc, Cond.initialized RJ8, Cond.code yJ8_newLength_cabcc cJ8_newLength_cabcc 4 (some .int), Cond.methodLink RJ8 194 Lib.Math.max.name, Cond.constant RJ8 200 (2147483639), Cond.methodLink RJ8 201 yJ8_hugeLength_7cf53, Cond.static yJ8_hugeLength_7cf53, Cond.code yJ8_hugeLength_7cf53 cJ8_hugeLength_7cf53 3 (some .int), Cond.methodLink RJx4a65c 66 yJ7_copyOf_1904c, Cond.static yJ7_copyOf_1904c, Cond.initialized RJ7, Cond.code yJ7_copyOf_1904c cJ7_copyOf_1904c 2 (some (.array (.object "java/lang/Object"))), Cond.methodLink RJ7 86 ⟨"java/lang/Object", "getClass", "()Ljava/lang/Class;"⟩, Cond.selects "[Ljava/lang/Object;" ⟨"java/lang/Object", "getClass", "()Ljava/lang/Class;"⟩ ⟨"java/lang/Object", "getClass", "()Ljava/lang/Class;"⟩, Cond.instanceMethod ⟨"java/lang/Object", "getClass", "()Ljava/lang/Class;"⟩, Cond.native ⟨"java/lang/Object", "getClass", "()Ljava/lang/Class;"⟩]
def wsX11_addMode_r6 : List Cond := [Cond.methodLink RJ7 300 yJ7_copyOf_6403c, Cond.static yJ7_copyOf_6403c, Cond.code yJ7_copyOf_6403c cJ7_copyOf_6403c 4 (some (.array (.object "java/lang/Object"))), Cond.classLink RJ7 110 "[Ljava/lang/Object;", Cond.classLink RJ7 2 "java/lang/Object", Cond.methodLink RJ7 304 Lib.Math.min.name, Cond.static Lib.Math.min.name, Cond.code Lib.Math.min.name Lib.Math.min.code 2 (some .int), Cond.methodLink RJ7 150 arraycopyName, Cond.native arraycopyName, Cond.static arraycopyName, Cond.initialized "java/lang/System"]
def wsX11_addMode : List Cond := .code yX11_addMode cX11_addMode 5 (some .int) :: ((wsX11_addMode_r1 ++ (wsX11_addMode_r2 ++ (wsX11_addMode_r3 ++ (wsX11_addMode_r4 ++ (wsX11_addMode_r5 ++ wsX11_addMode_r6))))) ++ wsX110 ++ wsX70 ++ wsJx4a65c0 ++ wsX60 ++ wsX90 ++ wsX50 ++ (vx_at0 RX11 82 "java/lang/IndexOutOfBoundsException" ["java/lang/RuntimeException", "java/lang/Exception"]).filter goodWord ++ (vx_at0 RX11 85 "java/lang/IllegalArgumentException" ["java/lang/RuntimeException", "java/lang/Exception"]).filter goodWord ++ (vx_at0 RX11 69 "java/lang/IllegalStateException" ["java/lang/RuntimeException", "java/lang/Exception"]).filter goodWord)
def wsX11_addClause_r1 : List Cond := [Cond.classLink RX11 80 "java/lang/IndexOutOfBoundsException", Cond.initialized "java/lang/IndexOutOfBoundsException", Cond.classLink RX11 67 "java/lang/IllegalStateException", Cond.initialized "java/lang/IllegalStateException", Cond.fieldLink RX11 19 "ModedMill" "program" "LModedMill$Program;", Cond.fieldLink RX11 51 "ModedMill" "isCompiled" "Z", Cond.methodLink RX11 134 yX7_predicateAt, Cond.instanceMethod yX7_predicateAt, Cond.selects RX7 yX7_predicateAt yX7_predicateAt, Cond.initialized RX7, Cond.code yX7_predicateAt cX7_predicateAt 2 (some (.object "ModedMill$Predicate")), Cond.fieldLink RX7 12 "ModedMill$Program" "predicates" "Ljava/util/ArrayList;", Cond.classLink RX7 32 "ModedMill$Predicate", Cond.methodLink RX7 24 yJx4a65c_size_8abf5, Cond.instanceMethod yJx4a65c_size_8abf5, Cond.selects RJx4a65c yJx4a65c_size_8abf5 yJx4a65c_size_8abf5, Cond.initialized RJx4a65c, Cond.code yJx4a65c_size_8abf5 cJx4a65c_size_8abf5 1 (some .int), Cond.fieldLink RJx4a65c 48 "java/util/ArrayList" "size" "I", Cond.methodLink RX7 28 yJx4a65c_get_915e3, Cond.instanceMethod yJx4a65c_get_915e3, Cond.selects RJx4a65c yJx4a65c_get_915e3 yJx4a65c_get_915e3, Cond.code yJx4a65c_get_915e3 cJx4a65c_get_915e3 2 (some (.object "java/lang/Object")), Cond.methodLink RJx4a65c 118 yJ15_checkIndex_7cf53]
def wsX11_addClause_r2 : List Cond := [Cond.static yJ15_checkIndex_7cf53, Cond.initialized RJ15, Cond.code yJ15_checkIndex_7cf53 cJ15_checkIndex_7cf53 2 (some .int), Cond.methodLink RJ15 105 yJ3_checkIndex_8e157, Cond.static yJ3_checkIndex_8e157, Cond.initialized RJ3, Cond.code yJ3_checkIndex_8e157 cJ3_checkIndex_8e157 3 (some .int), Cond.methodLink RJx4a65c 123 yJx4a65c_elementData_915e3, Cond.instanceMethod yJx4a65c_elementData_915e3, Cond.selects RJx4a65c yJx4a65c_elementData_915e3 yJx4a65c_elementData_915e3, Cond.code yJx4a65c_elementData_915e3 cJx4a65c_elementData_915e3 2 (some (.object "java/lang/Object")), Cond.fieldLink RJx4a65c 9 "java/util/ArrayList" "elementData" "[Ljava/lang/Object;", Cond.methodLink RX11 154 yX7_clauseCount, Cond.instanceMethod yX7_clauseCount, Cond.selects RX7 yX7_clauseCount yX7_clauseCount, Cond.code yX7_clauseCount cX7_clauseCount 1 (some .int), Cond.fieldLink RX7 21 "ModedMill$Program" "clauses" "Ljava/util/ArrayList;", Cond.methodLink RX11 157 yX7_newClause, Cond.instanceMethod yX7_newClause, Cond.selects RX7 yX7_newClause yX7_newClause, Cond.code yX7_newClause cX7_newClause 3 (some .int), Cond.classLink RX7 34 RX1, Cond.instantiable RX1 9, Cond.initialized RX1]
def wsX11_addClause_r3 : List Cond := [Cond.methodLink RX7 61 yX1_init, Cond.instanceMethod yX1_init, Cond.code yX1_init cX1_init 4 none, Cond.methodLink RX1 3 objectInit, Cond.instanceMethod objectInit, Cond.code objectInit ⟨#[0xb1]⟩ 1 none, Cond.fieldLink RX1 9 "ModedMill$Clause" "number" "I", Cond.fieldLink RX1 15 "ModedMill$Clause" "predicate" "LModedMill$Predicate;", Cond.classLink RX1 19 RX9, Cond.instantiable RX9 3, Cond.initialized RX9, Cond.fieldLink RX1 24 "ModedMill$Clause" "types" "LModedMill$Table;", Cond.classLink RX1 38 RJx4a65c, Cond.instantiable RJx4a65c 3, Cond.fieldLink RX1 41 "ModedMill$Clause" "goals" "Ljava/util/ArrayList;", Cond.arrayClass .int, Cond.fieldLink RX1 45 "ModedMill$Clause" "lengths" "[I", Cond.fieldLink RX1 49 "ModedMill$Clause" "numbers" "[I", Cond.classLink RX1 52 RX3, Cond.fieldLink RX1 54 "ModedMill$Clause" "ordered" "[LModedMill$Goal;", Cond.classLink RX1 58 RX5, Cond.fieldLink RX1 60 "ModedMill$Clause" "chosen" "[LModedMill$Mode;", Cond.fieldLink RX1 64 "ModedMill$Clause" "known" "[I", Cond.methodLink RX1 21 yX9_init]
def wsX11_addClause_r4 : List Cond := [Cond.instanceMethod yX9_init, Cond.code yX9_init cX9_init 3 none, Cond.methodLink RX9 3 objectInit, Cond.fieldLink RX9 9 "ModedMill$Table" "columns" "I", Cond.constant RX9 15 (1000000), Cond.fieldLink RX9 16 "ModedMill$Table" "cells" "[I", Cond.fieldLink RX9 20 "ModedMill$Table" "lines" "I", Cond.methodLink RX1 28 yX6_typeAt, Cond.instanceMethod yX6_typeAt, Cond.selects RX6 yX6_typeAt yX6_typeAt, Cond.initialized RX6, Cond.code yX6_typeAt cX6_typeAt 2 (some .int), Cond.fieldLink RX6 20 "ModedMill$Predicate" "types" "LModedMill$Table;", Cond.methodLink RX6 55 yX9_get, Cond.instanceMethod yX9_get, Cond.selects RX9 yX9_get yX9_get, Cond.code yX9_get cX9_get 5 (some .int), Cond.methodLink RX1 34 yX9_add, Cond.instanceMethod yX9_add, Cond.selects RX9 yX9_add yX9_add, Cond.code yX9_add cX9_add 6 (some .int), Cond.methodLink RX9 23 yJ7_copyOf_59c91, Cond.static yJ7_copyOf_59c91, Cond.initialized RJ7]
def wsX11_addClause_r5 : List Cond := [Cond.code yJ7_copyOf_59c91 cJ7_copyOf_59c91 3 (some (.array .int)), Cond.methodLink RJ7 316 ⟨"[I", "clone", "()Ljava/lang/Object;"⟩, Cond.sameMethod "[I" "java/lang/Object" "clone" "()Ljava/lang/Object;", Cond.native ⟨"java/lang/Object", "clone", "()Ljava/lang/Object;"⟩, Cond.instanceMethod ⟨"java/lang/Object", "clone", "()Ljava/lang/Object;"⟩, Cond.selects "[I" ⟨"[I", "clone", "()Ljava/lang/Object;"⟩ ⟨"java/lang/Object", "clone", "()Ljava/lang/Object;"⟩, Cond.classLink RJ7 317 "[I", Cond.methodLink RJ7 304 Lib.Math.min.name, Cond.static Lib.Math.min.name, Cond.initialized "java/lang/Math", Cond.code Lib.Math.min.name Lib.Math.min.code 2 (some .int), Cond.methodLink RJ7 150 arraycopyName, Cond.native arraycopyName, Cond.static arraycopyName, Cond.initialized "java/lang/System", Cond.methodLink RX9 29 yJ7_fill_fda19, Cond.static yJ7_fill_fda19, Cond.code yJ7_fill_fda19 cJ7_fill_fda19 5 none, Cond.methodLink RJ7 13 yJ7_rangeCheck_23922, Cond.static yJ7_rangeCheck_23922, Cond.code yJ7_rangeCheck_23922 cJ7_rangeCheck_23922 3 none, Cond.classLink RJ7 45 RJ4, Cond.instantiable RJ4 4, Cond.initialized RJ4]
def wsX11_addClause_r6 : List Cond := [Cond.classLink RJ7 68 RJx00060, Cond.instantiable RJx00060 6, Cond.initialized RJx00060, Cond.methodLink RX9 33 yX9_set, Cond.instanceMethod yX9_set, Cond.selects RX9 yX9_set yX9_set, Cond.code yX9_set cX9_set 6 none, Cond.methodLink RX1 40 yJx4a65c_init_da8c8, Cond.instanceMethod yJx4a65c_init_da8c8, Cond.code yJx4a65c_init_da8c8 cJx4a65c_init_da8c8 1 none, Cond.fieldLink RJx4a65c 39 "java/util/ArrayList" "DEFAULTCAPACITY_EMPTY_ELEMENTDATA" "[Ljava/lang/Object;", Cond.methodLink RJx4a65c 1 yJxc12de_init_da8c8, Cond.instanceMethod yJxc12de_init_da8c8, Cond.initialized RJxc12de, Cond.code yJxc12de_init_da8c8 cJxc12de_init_da8c8 1 none, Cond.fieldLink RJxc12de 7 "java/util/AbstractList" "modCount" "I", Cond.methodLink RJxc12de 1 yJxa1e45_init_da8c8, Cond.instanceMethod yJxa1e45_init_da8c8, Cond.initialized RJxa1e45, Cond.code yJxa1e45_init_da8c8 cJxa1e45_init_da8c8 1 none, Cond.methodLink RJxa1e45 1 objectInit, Cond.methodLink RX7 47 yJx4a65c_add_9ea2d, Cond.instanceMethod yJx4a65c_add_9ea2d, Cond.selects RJx4a65c yJx4a65c_add_9ea2d yJx4a65c_add_9ea2d]
def wsX11_addClause_r7 : List Cond := [Cond.code yJx4a65c_add_9ea2d cJx4a65c_add_9ea2d 2 (some .boolean), Cond.fieldLink RJx4a65c 63 "java/util/ArrayList" "modCount" "I", Cond.sameField "java/util/ArrayList" "java/util/AbstractList" "modCount" "I", Cond.methodLink RJx4a65c 131 yJx4a65c_add_72be8, Cond.instanceMethod yJx4a65c_add_72be8, Cond.selects RJx4a65c yJx4a65c_add_72be8 yJx4a65c_add_72be8, Cond.code yJx4a65c_add_72be8 cJx4a65c_add_72be8 4 none, Cond.methodLink RJx4a65c 129 yJx4a65c_grow_d5877, Cond.instanceMethod yJx4a65c_grow_d5877, Cond.selects RJx4a65c yJx4a65c_grow_d5877 yJx4a65c_grow_d5877, Cond.code yJx4a65c_grow_d5877 cJx4a65c_grow_d5877 1 (some (.array (.object "java/lang/Object"))), Cond.methodLink RJx4a65c 69 yJx4a65c_grow_92f84, Cond.instanceMethod yJx4a65c_grow_92f84, Cond.selects RJx4a65c yJx4a65c_grow_92f84 yJx4a65c_grow_92f84, Cond.code yJx4a65c_grow_92f84 cJx4a65c_grow_92f84 4 (some (.array (.object "java/lang/Object"))), Cond.methodLink RJx4a65c 79 Lib.Math.max.name, Cond.static Lib.Math.max.name, Cond.code Lib.Math.max.name Lib.Math.max.code 2 (some .int), Cond.classLink RJx4a65c 7 "java/lang/Object", Cond.methodLink RJx4a65c 73 yJ8_newLength_cabcc, Cond.static yJ8_newLength_cabcc, Cond.initialized RJ8, Cond.code yJ8_newLength_cabcc cJ8_newLength_cabcc 4 (some .int), Cond.methodLink RJ8 194 Lib.Math.max.name]
def wsX11_addClause_r8 : List Cond := [Cond.constant RJ8 200 (2147483639), Cond.methodLink RJ8 201 yJ8_hugeLength_7cf53, Cond.static yJ8_hugeLength_7cf53, Cond.code yJ8_hugeLength_7cf53 cJ8_hugeLength_7cf53 3 (some .int), Cond.methodLink RJx4a65c 66 yJ7_copyOf_1904c, Cond.static yJ7_copyOf_1904c, Cond.code yJ7_copyOf_1904c cJ7_copyOf_1904c 2 (some (.array (.object "java/lang/Object"))), Cond.methodLink RJ7 86 ⟨"java/lang/Object", "getClass", "()Ljava/lang/Class;"⟩, Cond.selects "[Ljava/lang/Object;" ⟨"java/lang/Object", "getClass", "()Ljava/lang/Class;"⟩ ⟨"java/lang/Object", "getClass", "()Ljava/lang/Class;"⟩, Cond.instanceMethod ⟨"java/lang/Object", "getClass", "()Ljava/lang/Class;"⟩, Cond.native ⟨"java/lang/Object", "getClass", "()Ljava/lang/Class;"⟩, Cond.methodLink RJ7 300 yJ7_copyOf_6403c, Cond.static yJ7_copyOf_6403c, Cond.code yJ7_copyOf_6403c cJ7_copyOf_6403c 4 (some (.array (.object "java/lang/Object"))), Cond.classLink RJ7 110 "[Ljava/lang/Object;", Cond.classLink RJ7 2 "java/lang/Object"]
def wsX11_addClause : List Cond := .code yX11_addClause cX11_addClause 3 (some .int) :: ((wsX11_addClause_r1 ++ (wsX11_addClause_r2 ++ (wsX11_addClause_r3 ++ (wsX11_addClause_r4 ++ (wsX11_addClause_r5 ++ (wsX11_addClause_r6 ++ (wsX11_addClause_r7 ++ wsX11_addClause_r8))))))) ++ wsX110 ++ wsX70 ++ wsJx4a65c0 ++ wsX10 ++ wsX60 ++ wsX90 ++ wsJ40 ++ wsJx000600 ++ (vx_at0 RX11 82 "java/lang/IndexOutOfBoundsException" ["java/lang/RuntimeException", "java/lang/Exception"]).filter goodWord ++ (vx_at0 RX11 69 "java/lang/IllegalStateException" ["java/lang/RuntimeException", "java/lang/Exception"]).filter goodWord ++ (vx_atM "java/lang/ArrayIndexOutOfBoundsException" ["java/lang/IndexOutOfBoundsException", "java/lang/RuntimeException", "java/lang/Exception"]).filter goodWord)
def wsX11_areVariables : List Cond := .code yX11_areVariables cX11_areVariables 3 (some .boolean) :: ([])
def wsX11_addGoal_r1 : List Cond := [Cond.classLink RX11 83 "java/lang/IllegalArgumentException", Cond.initialized "java/lang/IllegalArgumentException", Cond.classLink RX11 67 "java/lang/IllegalStateException", Cond.initialized "java/lang/IllegalStateException", Cond.fieldLink RX11 51 "ModedMill" "isCompiled" "Z", Cond.methodLink RX11 324 yX3_isBareBehindEnd, Cond.instanceMethod yX3_isBareBehindEnd, Cond.selects RX3 yX3_isBareBehindEnd yX3_isBareBehindEnd, Cond.initialized RX3, Cond.code yX3_isBareBehindEnd cX3_isBareBehindEnd 2 (some .boolean), Cond.fieldLink RX3 18 "ModedMill$Goal" "count" "I", Cond.methodLink RX3 25 yX3_variableAt, Cond.instanceMethod yX3_variableAt, Cond.selects RX3 yX3_variableAt yX3_variableAt, Cond.code yX3_variableAt cX3_variableAt 2 (some .int), Cond.fieldLink RX3 21 "ModedMill$Goal" "variables" "[I", Cond.methodLink RX11 328 yX1_takesTypes, Cond.instanceMethod yX1_takesTypes, Cond.selects RX1 yX1_takesTypes yX1_takesTypes, Cond.initialized RX1, Cond.code yX1_takesTypes cX1_takesTypes 9 (some .boolean), Cond.static yX11_pick, Cond.initialized RX11, Cond.code yX11_pick cX11_pick 4 (some .int)]
def wsX11_addGoal_r2 : List Cond := [Cond.methodLink RX1 85 yX3_variableAt, Cond.methodLink RX1 88 yX1_typeAt, Cond.instanceMethod yX1_typeAt, Cond.selects RX1 yX1_typeAt yX1_typeAt, Cond.code yX1_typeAt cX1_typeAt 2 (some .int), Cond.fieldLink RX1 24 "ModedMill$Clause" "types" "LModedMill$Table;", Cond.methodLink RX1 67 yX9_get, Cond.instanceMethod yX9_get, Cond.selects RX9 yX9_get yX9_get, Cond.initialized RX9, Cond.code yX9_get cX9_get 5 (some .int), Cond.fieldLink RX9 9 "ModedMill$Table" "columns" "I", Cond.fieldLink RX9 20 "ModedMill$Table" "lines" "I", Cond.fieldLink RX9 16 "ModedMill$Table" "cells" "[I", Cond.methodLink RX11 332 yX1_goalCount, Cond.instanceMethod yX1_goalCount, Cond.selects RX1 yX1_goalCount yX1_goalCount, Cond.code yX1_goalCount cX1_goalCount 1 (some .int), Cond.fieldLink RX1 41 "ModedMill$Clause" "goals" "Ljava/util/ArrayList;", Cond.methodLink RX1 71 yJx4a65c_size_8abf5, Cond.instanceMethod yJx4a65c_size_8abf5, Cond.selects RJx4a65c yJx4a65c_size_8abf5 yJx4a65c_size_8abf5, Cond.initialized RJx4a65c, Cond.code yJx4a65c_size_8abf5 cJx4a65c_size_8abf5 1 (some .int)]
def wsX11_addGoal_r3 : List Cond := [Cond.fieldLink RJx4a65c 48 "java/util/ArrayList" "size" "I", Cond.methodLink RX11 335 yX1_newGoal, Cond.instanceMethod yX1_newGoal, Cond.selects RX1 yX1_newGoal yX1_newGoal, Cond.code yX1_newGoal cX1_newGoal 6 (some .int), Cond.methodLink RX1 89 yX9_set, Cond.instanceMethod yX9_set, Cond.selects RX9 yX9_set yX9_set, Cond.code yX9_set cX9_set 6 none, Cond.methodLink RX1 93 yJx4a65c_add_9ea2d, Cond.instanceMethod yJx4a65c_add_9ea2d, Cond.selects RJx4a65c yJx4a65c_add_9ea2d yJx4a65c_add_9ea2d, Cond.code yJx4a65c_add_9ea2d cJx4a65c_add_9ea2d 2 (some .boolean), Cond.fieldLink RJx4a65c 63 "java/util/ArrayList" "modCount" "I", Cond.sameField "java/util/ArrayList" "java/util/AbstractList" "modCount" "I", Cond.fieldLink RJx4a65c 9 "java/util/ArrayList" "elementData" "[Ljava/lang/Object;", Cond.methodLink RJx4a65c 131 yJx4a65c_add_72be8, Cond.instanceMethod yJx4a65c_add_72be8, Cond.selects RJx4a65c yJx4a65c_add_72be8 yJx4a65c_add_72be8, Cond.code yJx4a65c_add_72be8 cJx4a65c_add_72be8 4 none, Cond.methodLink RJx4a65c 129 yJx4a65c_grow_d5877, Cond.instanceMethod yJx4a65c_grow_d5877, Cond.selects RJx4a65c yJx4a65c_grow_d5877 yJx4a65c_grow_d5877, Cond.code yJx4a65c_grow_d5877 cJx4a65c_grow_d5877 1 (some (.array (.object "java/lang/Object")))]
def wsX11_addGoal_r4 : List Cond := [Cond.methodLink RJx4a65c 69 yJx4a65c_grow_92f84, Cond.instanceMethod yJx4a65c_grow_92f84, Cond.selects RJx4a65c yJx4a65c_grow_92f84 yJx4a65c_grow_92f84, Cond.code yJx4a65c_grow_92f84 cJx4a65c_grow_92f84 4 (some (.array (.object "java/lang/Object"))), Cond.fieldLink RJx4a65c 39 "java/util/ArrayList" "DEFAULTCAPACITY_EMPTY_ELEMENTDATA" "[Ljava/lang/Object;", Cond.methodLink RJx4a65c 79 Lib.Math.max.name, Cond.static Lib.Math.max.name, Cond.initialized "java/lang/Math", Cond.code Lib.Math.max.name Lib.Math.max.code 2 (some .int), Cond.classLink RJx4a65c 7 "java/lang/Object", Cond.methodLink RJx4a65c 73 yJ8_newLength_cabcc, Cond.static yJ8_newLength_cabcc, Cond.initialized RJ8, Cond.code yJ8_newLength_cabcc cJ8_newLength_cabcc 4 (some .int), Cond.methodLink RJ8 194 Lib.Math.max.name, Cond.constant RJ8 200 (2147483639), Cond.methodLink RJ8 201 yJ8_hugeLength_7cf53, Cond.static yJ8_hugeLength_7cf53, Cond.code yJ8_hugeLength_7cf53 cJ8_hugeLength_7cf53 3 (some .int), Cond.methodLink RJx4a65c 66 yJ7_copyOf_1904c, Cond.static yJ7_copyOf_1904c, Cond.initialized RJ7, Cond.code yJ7_copyOf_1904c cJ7_copyOf_1904c 2 (some (.array (.object "java/lang/Object"))), Cond.methodLink RJ7 86 ⟨"java/lang/Object", "getClass", "()Ljava/lang/Class;"⟩]
def wsX11_addGoal_r5 : List Cond := [Cond.selects "[Ljava/lang/Object;" ⟨"java/lang/Object", "getClass", "()Ljava/lang/Class;"⟩ ⟨"java/lang/Object", "getClass", "()Ljava/lang/Class;"⟩, Cond.instanceMethod ⟨"java/lang/Object", "getClass", "()Ljava/lang/Class;"⟩, Cond.native ⟨"java/lang/Object", "getClass", "()Ljava/lang/Class;"⟩, Cond.methodLink RJ7 300 yJ7_copyOf_6403c, Cond.static yJ7_copyOf_6403c, Cond.code yJ7_copyOf_6403c cJ7_copyOf_6403c 4 (some (.array (.object "java/lang/Object"))), Cond.classLink RJ7 110 "[Ljava/lang/Object;", Cond.classLink RJ7 2 "java/lang/Object", Cond.methodLink RJ7 304 Lib.Math.min.name, Cond.static Lib.Math.min.name, Cond.code Lib.Math.min.name Lib.Math.min.code 2 (some .int), Cond.methodLink RJ7 150 arraycopyName, Cond.native arraycopyName, Cond.static arraycopyName, Cond.initialized "java/lang/System"]
def wsX11_addGoal : List Cond := .code yX11_addGoal cX11_addGoal 6 (some .int) :: ((wsX11_addGoal_r1 ++ (wsX11_addGoal_r2 ++ (wsX11_addGoal_r3 ++ (wsX11_addGoal_r4 ++ wsX11_addGoal_r5)))) ++ wsX110 ++ wsX30 ++ wsX10 ++ wsX90 ++ wsJx4a65c0 ++ (vx_at0 RX11 85 "java/lang/IllegalArgumentException" ["java/lang/RuntimeException", "java/lang/Exception"]).filter goodWord ++ (vx_at0 RX11 69 "java/lang/IllegalStateException" ["java/lang/RuntimeException", "java/lang/Exception"]).filter goodWord ++ (vx_atM "java/lang/ArrayIndexOutOfBoundsException" ["java/lang/IndexOutOfBoundsException", "java/lang/RuntimeException", "java/lang/Exception"]).filter goodWord)
def wsX11_addBuild_r1 : List Cond := [Cond.classLink RX11 80 "java/lang/IndexOutOfBoundsException", Cond.initialized "java/lang/IndexOutOfBoundsException", Cond.fieldLink RX11 19 "ModedMill" "program" "LModedMill$Program;", Cond.fieldLink RX11 10 "ModedMill" "store" "LModedMill$Terms;", Cond.classLink RX11 168 RX3, Cond.instantiable RX3 4, Cond.initialized RX3, Cond.methodLink RX11 161 yX7_clauseAt, Cond.instanceMethod yX7_clauseAt, Cond.selects RX7 yX7_clauseAt yX7_clauseAt, Cond.initialized RX7, Cond.code yX7_clauseAt cX7_clauseAt 2 (some (.object "ModedMill$Clause")), Cond.fieldLink RX7 21 "ModedMill$Program" "clauses" "Ljava/util/ArrayList;", Cond.classLink RX7 34 "ModedMill$Clause", Cond.methodLink RX7 24 yJx4a65c_size_8abf5, Cond.instanceMethod yJx4a65c_size_8abf5, Cond.selects RJx4a65c yJx4a65c_size_8abf5 yJx4a65c_size_8abf5, Cond.initialized RJx4a65c, Cond.code yJx4a65c_size_8abf5 cJx4a65c_size_8abf5 1 (some .int), Cond.fieldLink RJx4a65c 48 "java/util/ArrayList" "size" "I", Cond.methodLink RX7 28 yJx4a65c_get_915e3, Cond.instanceMethod yJx4a65c_get_915e3, Cond.selects RJx4a65c yJx4a65c_get_915e3 yJx4a65c_get_915e3, Cond.code yJx4a65c_get_915e3 cJx4a65c_get_915e3 2 (some (.object "java/lang/Object"))]
def wsX11_addBuild_r2 : List Cond := [Cond.methodLink RJx4a65c 118 yJ15_checkIndex_7cf53, Cond.static yJ15_checkIndex_7cf53, Cond.initialized RJ15, Cond.code yJ15_checkIndex_7cf53 cJ15_checkIndex_7cf53 2 (some .int), Cond.methodLink RJ15 105 yJ3_checkIndex_8e157, Cond.static yJ3_checkIndex_8e157, Cond.initialized RJ3, Cond.code yJ3_checkIndex_8e157 cJ3_checkIndex_8e157 3 (some .int), Cond.methodLink RJx4a65c 123 yJx4a65c_elementData_915e3, Cond.instanceMethod yJx4a65c_elementData_915e3, Cond.selects RJx4a65c yJx4a65c_elementData_915e3 yJx4a65c_elementData_915e3, Cond.code yJx4a65c_elementData_915e3 cJx4a65c_elementData_915e3 2 (some (.object "java/lang/Object")), Cond.fieldLink RJx4a65c 9 "java/util/ArrayList" "elementData" "[Ljava/lang/Object;", Cond.methodLink RX11 93 yX10_hasConstructor, Cond.instanceMethod yX10_hasConstructor, Cond.selects RX10 yX10_hasConstructor yX10_hasConstructor, Cond.initialized RX10, Cond.code yX10_hasConstructor cX10_hasConstructor 2 (some .boolean), Cond.fieldLink RX10 20 "ModedMill$Terms" "constructors" "LModedMill$Table;", Cond.methodLink RX10 38 yX9_count, Cond.instanceMethod yX9_count, Cond.selects RX9 yX9_count yX9_count, Cond.initialized RX9, Cond.code yX9_count cX9_count 1 (some .int)]
def wsX11_addBuild_r3 : List Cond := [Cond.fieldLink RX9 20 "ModedMill$Table" "lines" "I", Cond.methodLink RX11 165 yX11_areVariables, Cond.static yX11_areVariables, Cond.initialized RX11, Cond.code yX11_areVariables cX11_areVariables 3 (some .boolean), Cond.methodLink RX11 114 yX10_partCount, Cond.instanceMethod yX10_partCount, Cond.selects RX10 yX10_partCount yX10_partCount, Cond.code yX10_partCount cX10_partCount 2 (some .int), Cond.methodLink RX10 42 yX9_get, Cond.instanceMethod yX9_get, Cond.selects RX9 yX9_get yX9_get, Cond.code yX9_get cX9_get 5 (some .int), Cond.fieldLink RX9 9 "ModedMill$Table" "columns" "I", Cond.fieldLink RX9 16 "ModedMill$Table" "cells" "[I", Cond.methodLink RX11 170 yX3_init, Cond.instanceMethod yX3_init, Cond.code yX3_init cX3_init 7 none, Cond.methodLink RX3 3 objectInit, Cond.instanceMethod objectInit, Cond.code objectInit ⟨#[0xb1]⟩ 1 none, Cond.fieldLink RX3 9 "ModedMill$Goal" "kind" "I", Cond.fieldLink RX3 15 "ModedMill$Goal" "subject" "I", Cond.fieldLink RX3 18 "ModedMill$Goal" "count" "I"]
def wsX11_addBuild_r4 : List Cond := [Cond.arrayClass .int, Cond.fieldLink RX3 21 "ModedMill$Goal" "variables" "[I", Cond.methodLink RX11 173 yX10_typeOfHead, Cond.instanceMethod yX10_typeOfHead, Cond.selects RX10 yX10_typeOfHead yX10_typeOfHead, Cond.code yX10_typeOfHead cX10_typeOfHead 2 (some .int), Cond.methodLink RX11 176 yX10_partType, Cond.instanceMethod yX10_partType, Cond.selects RX10 yX10_partType yX10_partType, Cond.code yX10_partType cX10_partType 3 (some .int), Cond.methodLink RX11 179 yX11_addGoal, Cond.instanceMethod yX11_addGoal, Cond.selects RX11 yX11_addGoal yX11_addGoal, Cond.code yX11_addGoal cX11_addGoal 6 (some .int), Cond.classLink RX11 83 "java/lang/IllegalArgumentException", Cond.initialized "java/lang/IllegalArgumentException", Cond.classLink RX11 67 "java/lang/IllegalStateException", Cond.initialized "java/lang/IllegalStateException", Cond.fieldLink RX11 51 "ModedMill" "isCompiled" "Z", Cond.methodLink RX11 324 yX3_isBareBehindEnd, Cond.instanceMethod yX3_isBareBehindEnd, Cond.selects RX3 yX3_isBareBehindEnd yX3_isBareBehindEnd, Cond.code yX3_isBareBehindEnd cX3_isBareBehindEnd 2 (some .boolean), Cond.methodLink RX3 25 yX3_variableAt]
def wsX11_addBuild_r5 : List Cond := [Cond.instanceMethod yX3_variableAt, Cond.selects RX3 yX3_variableAt yX3_variableAt, Cond.code yX3_variableAt cX3_variableAt 2 (some .int), Cond.methodLink RX11 328 yX1_takesTypes, Cond.instanceMethod yX1_takesTypes, Cond.selects RX1 yX1_takesTypes yX1_takesTypes, Cond.initialized RX1, Cond.code yX1_takesTypes cX1_takesTypes 9 (some .boolean), Cond.static yX11_pick, Cond.code yX11_pick cX11_pick 4 (some .int), Cond.methodLink RX1 85 yX3_variableAt, Cond.methodLink RX1 88 yX1_typeAt, Cond.instanceMethod yX1_typeAt, Cond.selects RX1 yX1_typeAt yX1_typeAt, Cond.code yX1_typeAt cX1_typeAt 2 (some .int), Cond.fieldLink RX1 24 "ModedMill$Clause" "types" "LModedMill$Table;", Cond.methodLink RX1 67 yX9_get, Cond.methodLink RX11 332 yX1_goalCount, Cond.instanceMethod yX1_goalCount, Cond.selects RX1 yX1_goalCount yX1_goalCount, Cond.code yX1_goalCount cX1_goalCount 1 (some .int), Cond.fieldLink RX1 41 "ModedMill$Clause" "goals" "Ljava/util/ArrayList;", Cond.methodLink RX1 71 yJx4a65c_size_8abf5, Cond.methodLink RX11 335 yX1_newGoal]
def wsX11_addBuild_r6 : List Cond := [Cond.instanceMethod yX1_newGoal, Cond.selects RX1 yX1_newGoal yX1_newGoal, Cond.code yX1_newGoal cX1_newGoal 6 (some .int), Cond.methodLink RX1 89 yX9_set, Cond.instanceMethod yX9_set, Cond.selects RX9 yX9_set yX9_set, Cond.code yX9_set cX9_set 6 none, Cond.methodLink RX1 93 yJx4a65c_add_9ea2d, Cond.instanceMethod yJx4a65c_add_9ea2d, Cond.selects RJx4a65c yJx4a65c_add_9ea2d yJx4a65c_add_9ea2d, Cond.code yJx4a65c_add_9ea2d cJx4a65c_add_9ea2d 2 (some .boolean), Cond.fieldLink RJx4a65c 63 "java/util/ArrayList" "modCount" "I", Cond.sameField "java/util/ArrayList" "java/util/AbstractList" "modCount" "I", Cond.methodLink RJx4a65c 131 yJx4a65c_add_72be8, Cond.instanceMethod yJx4a65c_add_72be8, Cond.selects RJx4a65c yJx4a65c_add_72be8 yJx4a65c_add_72be8, Cond.code yJx4a65c_add_72be8 cJx4a65c_add_72be8 4 none, Cond.methodLink RJx4a65c 129 yJx4a65c_grow_d5877, Cond.instanceMethod yJx4a65c_grow_d5877, Cond.selects RJx4a65c yJx4a65c_grow_d5877 yJx4a65c_grow_d5877, Cond.code yJx4a65c_grow_d5877 cJx4a65c_grow_d5877 1 (some (.array (.object "java/lang/Object"))), Cond.methodLink RJx4a65c 69 yJx4a65c_grow_92f84, Cond.instanceMethod yJx4a65c_grow_92f84, Cond.selects RJx4a65c yJx4a65c_grow_92f84 yJx4a65c_grow_92f84]
def wsX11_addBuild_r7 : List Cond := [Cond.code yJx4a65c_grow_92f84 cJx4a65c_grow_92f84 4 (some (.array (.object "java/lang/Object"))), Cond.fieldLink RJx4a65c 39 "java/util/ArrayList" "DEFAULTCAPACITY_EMPTY_ELEMENTDATA" "[Ljava/lang/Object;", Cond.methodLink RJx4a65c 79 Lib.Math.max.name, Cond.static Lib.Math.max.name, Cond.initialized "java/lang/Math", Cond.code Lib.Math.max.name Lib.Math.max.code 2 (some .int), Cond.classLink RJx4a65c 7 "java/lang/Object", Cond.methodLink RJx4a65c 73 yJ8_newLength_cabcc, Cond.static yJ8_newLength_cabcc, Cond.initialized RJ8, Cond.code yJ8_newLength_cabcc cJ8_newLength_cabcc 4 (some .int), Cond.methodLink RJ8 194 Lib.Math.max.name, Cond.constant RJ8 200 (2147483639), Cond.methodLink RJ8 201 yJ8_hugeLength_7cf53, Cond.static yJ8_hugeLength_7cf53, Cond.code yJ8_hugeLength_7cf53 cJ8_hugeLength_7cf53 3 (some .int), Cond.methodLink RJx4a65c 66 yJ7_copyOf_1904c, Cond.static yJ7_copyOf_1904c, Cond.initialized RJ7, Cond.code yJ7_copyOf_1904c cJ7_copyOf_1904c 2 (some (.array (.object "java/lang/Object"))), Cond.methodLink RJ7 86 ⟨"java/lang/Object", "getClass", "()Ljava/lang/Class;"⟩, Cond.selects "[Ljava/lang/Object;" ⟨"java/lang/Object", "getClass", "()Ljava/lang/Class;"⟩ ⟨"java/lang/Object", "getClass", "()Ljava/lang/Class;"⟩, Cond.instanceMethod ⟨"java/lang/Object", "getClass", "()Ljava/lang/Class;"⟩, Cond.native ⟨"java/lang/Object", "getClass", "()Ljava/lang/Class;"⟩]
def wsX11_addBuild_r8 : List Cond := [Cond.methodLink RJ7 300 yJ7_copyOf_6403c, Cond.static yJ7_copyOf_6403c, Cond.code yJ7_copyOf_6403c cJ7_copyOf_6403c 4 (some (.array (.object "java/lang/Object"))), Cond.classLink RJ7 110 "[Ljava/lang/Object;", Cond.classLink RJ7 2 "java/lang/Object", Cond.methodLink RJ7 304 Lib.Math.min.name, Cond.static Lib.Math.min.name, Cond.code Lib.Math.min.name Lib.Math.min.code 2 (some .int), Cond.methodLink RJ7 150 arraycopyName, Cond.native arraycopyName, Cond.static arraycopyName, Cond.initialized "java/lang/System"]
def wsX11_addBuild : List Cond := .code yX11_addBuild cX11_addBuild 11 (some .int) :: ((wsX11_addBuild_r1 ++ (wsX11_addBuild_r2 ++ (wsX11_addBuild_r3 ++ (wsX11_addBuild_r4 ++ (wsX11_addBuild_r5 ++ (wsX11_addBuild_r6 ++ (wsX11_addBuild_r7 ++ wsX11_addBuild_r8))))))) ++ wsX110 ++ wsX30 ++ wsX70 ++ wsJx4a65c0 ++ wsX100 ++ wsX90 ++ wsX10 ++ (vx_at0 RX11 82 "java/lang/IndexOutOfBoundsException" ["java/lang/RuntimeException", "java/lang/Exception"]).filter goodWord ++ (vx_atM "java/lang/ArrayIndexOutOfBoundsException" ["java/lang/IndexOutOfBoundsException", "java/lang/RuntimeException", "java/lang/Exception"]).filter goodWord ++ (vx_at0 RX11 85 "java/lang/IllegalArgumentException" ["java/lang/RuntimeException", "java/lang/Exception"]).filter goodWord ++ (vx_at0 RX11 69 "java/lang/IllegalStateException" ["java/lang/RuntimeException", "java/lang/Exception"]).filter goodWord)
def wsX11_addSame_r1 : List Cond := [Cond.classLink RX11 80 "java/lang/IndexOutOfBoundsException", Cond.initialized "java/lang/IndexOutOfBoundsException", Cond.classLink RX11 83 "java/lang/IllegalArgumentException", Cond.initialized "java/lang/IllegalArgumentException", Cond.fieldLink RX11 19 "ModedMill" "program" "LModedMill$Program;", Cond.classLink RX11 168 RX3, Cond.instantiable RX3 4, Cond.initialized RX3, Cond.methodLink RX11 161 yX7_clauseAt, Cond.instanceMethod yX7_clauseAt, Cond.selects RX7 yX7_clauseAt yX7_clauseAt, Cond.initialized RX7, Cond.code yX7_clauseAt cX7_clauseAt 2 (some (.object "ModedMill$Clause")), Cond.fieldLink RX7 21 "ModedMill$Program" "clauses" "Ljava/util/ArrayList;", Cond.classLink RX7 34 "ModedMill$Clause", Cond.methodLink RX7 24 yJx4a65c_size_8abf5, Cond.instanceMethod yJx4a65c_size_8abf5, Cond.selects RJx4a65c yJx4a65c_size_8abf5 yJx4a65c_size_8abf5, Cond.initialized RJx4a65c, Cond.code yJx4a65c_size_8abf5 cJx4a65c_size_8abf5 1 (some .int), Cond.fieldLink RJx4a65c 48 "java/util/ArrayList" "size" "I", Cond.methodLink RX7 28 yJx4a65c_get_915e3, Cond.instanceMethod yJx4a65c_get_915e3, Cond.selects RJx4a65c yJx4a65c_get_915e3 yJx4a65c_get_915e3]
def wsX11_addSame_r2 : List Cond := [Cond.code yJx4a65c_get_915e3 cJx4a65c_get_915e3 2 (some (.object "java/lang/Object")), Cond.methodLink RJx4a65c 118 yJ15_checkIndex_7cf53, Cond.static yJ15_checkIndex_7cf53, Cond.initialized RJ15, Cond.code yJ15_checkIndex_7cf53 cJ15_checkIndex_7cf53 2 (some .int), Cond.methodLink RJ15 105 yJ3_checkIndex_8e157, Cond.static yJ3_checkIndex_8e157, Cond.initialized RJ3, Cond.code yJ3_checkIndex_8e157 cJ3_checkIndex_8e157 3 (some .int), Cond.methodLink RJx4a65c 123 yJx4a65c_elementData_915e3, Cond.instanceMethod yJx4a65c_elementData_915e3, Cond.selects RJx4a65c yJx4a65c_elementData_915e3 yJx4a65c_elementData_915e3, Cond.code yJx4a65c_elementData_915e3 cJx4a65c_elementData_915e3 2 (some (.object "java/lang/Object")), Cond.fieldLink RJx4a65c 9 "java/util/ArrayList" "elementData" "[Ljava/lang/Object;", Cond.methodLink RX11 165 yX11_areVariables, Cond.static yX11_areVariables, Cond.initialized RX11, Cond.code yX11_areVariables cX11_areVariables 3 (some .boolean), Cond.methodLink RX11 183 yX1_typeAt, Cond.instanceMethod yX1_typeAt, Cond.selects RX1 yX1_typeAt yX1_typeAt, Cond.initialized RX1, Cond.code yX1_typeAt cX1_typeAt 2 (some .int), Cond.fieldLink RX1 24 "ModedMill$Clause" "types" "LModedMill$Table;"]
def wsX11_addSame_r3 : List Cond := [Cond.methodLink RX1 67 yX9_get, Cond.instanceMethod yX9_get, Cond.selects RX9 yX9_get yX9_get, Cond.initialized RX9, Cond.code yX9_get cX9_get 5 (some .int), Cond.fieldLink RX9 9 "ModedMill$Table" "columns" "I", Cond.fieldLink RX9 20 "ModedMill$Table" "lines" "I", Cond.fieldLink RX9 16 "ModedMill$Table" "cells" "[I", Cond.methodLink RX11 170 yX3_init, Cond.instanceMethod yX3_init, Cond.code yX3_init cX3_init 7 none, Cond.methodLink RX3 3 objectInit, Cond.instanceMethod objectInit, Cond.code objectInit ⟨#[0xb1]⟩ 1 none, Cond.fieldLink RX3 9 "ModedMill$Goal" "kind" "I", Cond.fieldLink RX3 15 "ModedMill$Goal" "subject" "I", Cond.fieldLink RX3 18 "ModedMill$Goal" "count" "I", Cond.arrayClass .int, Cond.fieldLink RX3 21 "ModedMill$Goal" "variables" "[I", Cond.methodLink RX11 179 yX11_addGoal, Cond.instanceMethod yX11_addGoal, Cond.selects RX11 yX11_addGoal yX11_addGoal, Cond.code yX11_addGoal cX11_addGoal 6 (some .int), Cond.classLink RX11 67 "java/lang/IllegalStateException"]
def wsX11_addSame_r4 : List Cond := [Cond.initialized "java/lang/IllegalStateException", Cond.fieldLink RX11 51 "ModedMill" "isCompiled" "Z", Cond.methodLink RX11 324 yX3_isBareBehindEnd, Cond.instanceMethod yX3_isBareBehindEnd, Cond.selects RX3 yX3_isBareBehindEnd yX3_isBareBehindEnd, Cond.code yX3_isBareBehindEnd cX3_isBareBehindEnd 2 (some .boolean), Cond.methodLink RX3 25 yX3_variableAt, Cond.instanceMethod yX3_variableAt, Cond.selects RX3 yX3_variableAt yX3_variableAt, Cond.code yX3_variableAt cX3_variableAt 2 (some .int), Cond.methodLink RX11 328 yX1_takesTypes, Cond.instanceMethod yX1_takesTypes, Cond.selects RX1 yX1_takesTypes yX1_takesTypes, Cond.code yX1_takesTypes cX1_takesTypes 9 (some .boolean), Cond.static yX11_pick, Cond.code yX11_pick cX11_pick 4 (some .int), Cond.methodLink RX1 85 yX3_variableAt, Cond.methodLink RX1 88 yX1_typeAt, Cond.methodLink RX11 332 yX1_goalCount, Cond.instanceMethod yX1_goalCount, Cond.selects RX1 yX1_goalCount yX1_goalCount, Cond.code yX1_goalCount cX1_goalCount 1 (some .int), Cond.fieldLink RX1 41 "ModedMill$Clause" "goals" "Ljava/util/ArrayList;", Cond.methodLink RX1 71 yJx4a65c_size_8abf5]
def wsX11_addSame_r5 : List Cond := [Cond.methodLink RX11 335 yX1_newGoal, Cond.instanceMethod yX1_newGoal, Cond.selects RX1 yX1_newGoal yX1_newGoal, Cond.code yX1_newGoal cX1_newGoal 6 (some .int), Cond.methodLink RX1 89 yX9_set, Cond.instanceMethod yX9_set, Cond.selects RX9 yX9_set yX9_set, Cond.code yX9_set cX9_set 6 none, Cond.methodLink RX1 93 yJx4a65c_add_9ea2d, Cond.instanceMethod yJx4a65c_add_9ea2d, Cond.selects RJx4a65c yJx4a65c_add_9ea2d yJx4a65c_add_9ea2d, Cond.code yJx4a65c_add_9ea2d cJx4a65c_add_9ea2d 2 (some .boolean), Cond.fieldLink RJx4a65c 63 "java/util/ArrayList" "modCount" "I", Cond.sameField "java/util/ArrayList" "java/util/AbstractList" "modCount" "I", Cond.methodLink RJx4a65c 131 yJx4a65c_add_72be8, Cond.instanceMethod yJx4a65c_add_72be8, Cond.selects RJx4a65c yJx4a65c_add_72be8 yJx4a65c_add_72be8, Cond.code yJx4a65c_add_72be8 cJx4a65c_add_72be8 4 none, Cond.methodLink RJx4a65c 129 yJx4a65c_grow_d5877, Cond.instanceMethod yJx4a65c_grow_d5877, Cond.selects RJx4a65c yJx4a65c_grow_d5877 yJx4a65c_grow_d5877, Cond.code yJx4a65c_grow_d5877 cJx4a65c_grow_d5877 1 (some (.array (.object "java/lang/Object"))), Cond.methodLink RJx4a65c 69 yJx4a65c_grow_92f84, Cond.instanceMethod yJx4a65c_grow_92f84]
def wsX11_addSame_r6 : List Cond := [Cond.selects RJx4a65c yJx4a65c_grow_92f84 yJx4a65c_grow_92f84, Cond.code yJx4a65c_grow_92f84 cJx4a65c_grow_92f84 4 (some (.array (.object "java/lang/Object"))), Cond.fieldLink RJx4a65c 39 "java/util/ArrayList" "DEFAULTCAPACITY_EMPTY_ELEMENTDATA" "[Ljava/lang/Object;", Cond.methodLink RJx4a65c 79 Lib.Math.max.name, Cond.static Lib.Math.max.name, Cond.initialized "java/lang/Math", Cond.code Lib.Math.max.name Lib.Math.max.code 2 (some .int), Cond.classLink RJx4a65c 7 "java/lang/Object", Cond.methodLink RJx4a65c 73 yJ8_newLength_cabcc, Cond.static yJ8_newLength_cabcc, Cond.initialized RJ8, Cond.code yJ8_newLength_cabcc cJ8_newLength_cabcc 4 (some .int), Cond.methodLink RJ8 194 Lib.Math.max.name, Cond.constant RJ8 200 (2147483639), Cond.methodLink RJ8 201 yJ8_hugeLength_7cf53, Cond.static yJ8_hugeLength_7cf53, Cond.code yJ8_hugeLength_7cf53 cJ8_hugeLength_7cf53 3 (some .int), Cond.methodLink RJx4a65c 66 yJ7_copyOf_1904c, Cond.static yJ7_copyOf_1904c, Cond.initialized RJ7, Cond.code yJ7_copyOf_1904c cJ7_copyOf_1904c 2 (some (.array (.object "java/lang/Object"))), Cond.methodLink RJ7 86 ⟨"java/lang/Object", "getClass", "()Ljava/lang/Class;"⟩, Cond.selects "[Ljava/lang/Object;" ⟨"java/lang/Object", "getClass", "()Ljava/lang/Class;"⟩ ⟨"java/lang/Object", "getClass", "()Ljava/lang/Class;"⟩, Cond.instanceMethod ⟨"java/lang/Object", "getClass", "()Ljava/lang/Class;"⟩]
def wsX11_addSame_r7 : List Cond := [Cond.native ⟨"java/lang/Object", "getClass", "()Ljava/lang/Class;"⟩, Cond.methodLink RJ7 300 yJ7_copyOf_6403c, Cond.static yJ7_copyOf_6403c, Cond.code yJ7_copyOf_6403c cJ7_copyOf_6403c 4 (some (.array (.object "java/lang/Object"))), Cond.classLink RJ7 110 "[Ljava/lang/Object;", Cond.classLink RJ7 2 "java/lang/Object", Cond.methodLink RJ7 304 Lib.Math.min.name, Cond.static Lib.Math.min.name, Cond.code Lib.Math.min.name Lib.Math.min.code 2 (some .int), Cond.methodLink RJ7 150 arraycopyName, Cond.native arraycopyName, Cond.static arraycopyName, Cond.initialized "java/lang/System"]
def wsX11_addSame : List Cond := .code yX11_addSame cX11_addSame 6 (some .int) :: ((wsX11_addSame_r1 ++ (wsX11_addSame_r2 ++ (wsX11_addSame_r3 ++ (wsX11_addSame_r4 ++ (wsX11_addSame_r5 ++ (wsX11_addSame_r6 ++ wsX11_addSame_r7)))))) ++ wsX110 ++ wsX30 ++ wsX70 ++ wsJx4a65c0 ++ wsX10 ++ wsX90 ++ (vx_at0 RX11 82 "java/lang/IndexOutOfBoundsException" ["java/lang/RuntimeException", "java/lang/Exception"]).filter goodWord ++ (vx_at0 RX11 85 "java/lang/IllegalArgumentException" ["java/lang/RuntimeException", "java/lang/Exception"]).filter goodWord ++ (vx_atM "java/lang/ArrayIndexOutOfBoundsException" ["java/lang/IndexOutOfBoundsException", "java/lang/RuntimeException", "java/lang/Exception"]).filter goodWord ++ (vx_at0 RX11 69 "java/lang/IllegalStateException" ["java/lang/RuntimeException", "java/lang/Exception"]).filter goodWord)
def wsX11_addCall_r1 : List Cond := [Cond.classLink RX11 80 "java/lang/IndexOutOfBoundsException", Cond.initialized "java/lang/IndexOutOfBoundsException", Cond.fieldLink RX11 19 "ModedMill" "program" "LModedMill$Program;", Cond.classLink RX11 168 RX3, Cond.instantiable RX3 4, Cond.initialized RX3, Cond.methodLink RX11 161 yX7_clauseAt, Cond.instanceMethod yX7_clauseAt, Cond.selects RX7 yX7_clauseAt yX7_clauseAt, Cond.initialized RX7, Cond.code yX7_clauseAt cX7_clauseAt 2 (some (.object "ModedMill$Clause")), Cond.fieldLink RX7 21 "ModedMill$Program" "clauses" "Ljava/util/ArrayList;", Cond.classLink RX7 34 "ModedMill$Clause", Cond.methodLink RX7 24 yJx4a65c_size_8abf5, Cond.instanceMethod yJx4a65c_size_8abf5, Cond.selects RJx4a65c yJx4a65c_size_8abf5 yJx4a65c_size_8abf5, Cond.initialized RJx4a65c, Cond.code yJx4a65c_size_8abf5 cJx4a65c_size_8abf5 1 (some .int), Cond.fieldLink RJx4a65c 48 "java/util/ArrayList" "size" "I", Cond.methodLink RX7 28 yJx4a65c_get_915e3, Cond.instanceMethod yJx4a65c_get_915e3, Cond.selects RJx4a65c yJx4a65c_get_915e3 yJx4a65c_get_915e3, Cond.code yJx4a65c_get_915e3 cJx4a65c_get_915e3 2 (some (.object "java/lang/Object")), Cond.methodLink RJx4a65c 118 yJ15_checkIndex_7cf53]
def wsX11_addCall_r2 : List Cond := [Cond.static yJ15_checkIndex_7cf53, Cond.initialized RJ15, Cond.code yJ15_checkIndex_7cf53 cJ15_checkIndex_7cf53 2 (some .int), Cond.methodLink RJ15 105 yJ3_checkIndex_8e157, Cond.static yJ3_checkIndex_8e157, Cond.initialized RJ3, Cond.code yJ3_checkIndex_8e157 cJ3_checkIndex_8e157 3 (some .int), Cond.methodLink RJx4a65c 123 yJx4a65c_elementData_915e3, Cond.instanceMethod yJx4a65c_elementData_915e3, Cond.selects RJx4a65c yJx4a65c_elementData_915e3 yJx4a65c_elementData_915e3, Cond.code yJx4a65c_elementData_915e3 cJx4a65c_elementData_915e3 2 (some (.object "java/lang/Object")), Cond.fieldLink RJx4a65c 9 "java/util/ArrayList" "elementData" "[Ljava/lang/Object;", Cond.methodLink RX11 134 yX7_predicateAt, Cond.instanceMethod yX7_predicateAt, Cond.selects RX7 yX7_predicateAt yX7_predicateAt, Cond.code yX7_predicateAt cX7_predicateAt 2 (some (.object "ModedMill$Predicate")), Cond.fieldLink RX7 12 "ModedMill$Program" "predicates" "Ljava/util/ArrayList;", Cond.classLink RX7 32 "ModedMill$Predicate", Cond.methodLink RX11 165 yX11_areVariables, Cond.static yX11_areVariables, Cond.initialized RX11, Cond.code yX11_areVariables cX11_areVariables 3 (some .boolean), Cond.methodLink RX11 188 yX6_arity, Cond.instanceMethod yX6_arity]
def wsX11_addCall_r3 : List Cond := [Cond.selects RX6 yX6_arity yX6_arity, Cond.initialized RX6, Cond.code yX6_arity cX6_arity 1 (some .int), Cond.fieldLink RX6 20 "ModedMill$Predicate" "types" "LModedMill$Table;", Cond.methodLink RX6 51 yX9_count, Cond.instanceMethod yX9_count, Cond.selects RX9 yX9_count yX9_count, Cond.initialized RX9, Cond.code yX9_count cX9_count 1 (some .int), Cond.fieldLink RX9 20 "ModedMill$Table" "lines" "I", Cond.methodLink RX11 170 yX3_init, Cond.instanceMethod yX3_init, Cond.code yX3_init cX3_init 7 none, Cond.methodLink RX3 3 objectInit, Cond.instanceMethod objectInit, Cond.code objectInit ⟨#[0xb1]⟩ 1 none, Cond.fieldLink RX3 9 "ModedMill$Goal" "kind" "I", Cond.fieldLink RX3 15 "ModedMill$Goal" "subject" "I", Cond.fieldLink RX3 18 "ModedMill$Goal" "count" "I", Cond.arrayClass .int, Cond.fieldLink RX3 21 "ModedMill$Goal" "variables" "[I", Cond.methodLink RX11 191 yX6_typeAt, Cond.instanceMethod yX6_typeAt, Cond.selects RX6 yX6_typeAt yX6_typeAt]
def wsX11_addCall_r4 : List Cond := [Cond.code yX6_typeAt cX6_typeAt 2 (some .int), Cond.methodLink RX6 55 yX9_get, Cond.instanceMethod yX9_get, Cond.selects RX9 yX9_get yX9_get, Cond.code yX9_get cX9_get 5 (some .int), Cond.fieldLink RX9 9 "ModedMill$Table" "columns" "I", Cond.fieldLink RX9 16 "ModedMill$Table" "cells" "[I", Cond.methodLink RX11 179 yX11_addGoal, Cond.instanceMethod yX11_addGoal, Cond.selects RX11 yX11_addGoal yX11_addGoal, Cond.code yX11_addGoal cX11_addGoal 6 (some .int), Cond.classLink RX11 83 "java/lang/IllegalArgumentException", Cond.initialized "java/lang/IllegalArgumentException", Cond.classLink RX11 67 "java/lang/IllegalStateException", Cond.initialized "java/lang/IllegalStateException", Cond.fieldLink RX11 51 "ModedMill" "isCompiled" "Z", Cond.methodLink RX11 324 yX3_isBareBehindEnd, Cond.instanceMethod yX3_isBareBehindEnd, Cond.selects RX3 yX3_isBareBehindEnd yX3_isBareBehindEnd, Cond.code yX3_isBareBehindEnd cX3_isBareBehindEnd 2 (some .boolean), Cond.methodLink RX3 25 yX3_variableAt, Cond.instanceMethod yX3_variableAt, Cond.selects RX3 yX3_variableAt yX3_variableAt, Cond.code yX3_variableAt cX3_variableAt 2 (some .int)]
def wsX11_addCall_r5 : List Cond := [Cond.methodLink RX11 328 yX1_takesTypes, Cond.instanceMethod yX1_takesTypes, Cond.selects RX1 yX1_takesTypes yX1_takesTypes, Cond.initialized RX1, Cond.code yX1_takesTypes cX1_takesTypes 9 (some .boolean), Cond.static yX11_pick, Cond.code yX11_pick cX11_pick 4 (some .int), Cond.methodLink RX1 85 yX3_variableAt, Cond.methodLink RX1 88 yX1_typeAt, Cond.instanceMethod yX1_typeAt, Cond.selects RX1 yX1_typeAt yX1_typeAt, Cond.code yX1_typeAt cX1_typeAt 2 (some .int), Cond.fieldLink RX1 24 "ModedMill$Clause" "types" "LModedMill$Table;", Cond.methodLink RX1 67 yX9_get, Cond.methodLink RX11 332 yX1_goalCount, Cond.instanceMethod yX1_goalCount, Cond.selects RX1 yX1_goalCount yX1_goalCount, Cond.code yX1_goalCount cX1_goalCount 1 (some .int), Cond.fieldLink RX1 41 "ModedMill$Clause" "goals" "Ljava/util/ArrayList;", Cond.methodLink RX1 71 yJx4a65c_size_8abf5, Cond.methodLink RX11 335 yX1_newGoal, Cond.instanceMethod yX1_newGoal, Cond.selects RX1 yX1_newGoal yX1_newGoal, Cond.code yX1_newGoal cX1_newGoal 6 (some .int)]
def wsX11_addCall_r6 : List Cond := [Cond.methodLink RX1 89 yX9_set, Cond.instanceMethod yX9_set, Cond.selects RX9 yX9_set yX9_set, Cond.code yX9_set cX9_set 6 none, Cond.methodLink RX1 93 yJx4a65c_add_9ea2d, Cond.instanceMethod yJx4a65c_add_9ea2d, Cond.selects RJx4a65c yJx4a65c_add_9ea2d yJx4a65c_add_9ea2d, Cond.code yJx4a65c_add_9ea2d cJx4a65c_add_9ea2d 2 (some .boolean), Cond.fieldLink RJx4a65c 63 "java/util/ArrayList" "modCount" "I", Cond.sameField "java/util/ArrayList" "java/util/AbstractList" "modCount" "I", Cond.methodLink RJx4a65c 131 yJx4a65c_add_72be8, Cond.instanceMethod yJx4a65c_add_72be8, Cond.selects RJx4a65c yJx4a65c_add_72be8 yJx4a65c_add_72be8, Cond.code yJx4a65c_add_72be8 cJx4a65c_add_72be8 4 none, Cond.methodLink RJx4a65c 129 yJx4a65c_grow_d5877, Cond.instanceMethod yJx4a65c_grow_d5877, Cond.selects RJx4a65c yJx4a65c_grow_d5877 yJx4a65c_grow_d5877, Cond.code yJx4a65c_grow_d5877 cJx4a65c_grow_d5877 1 (some (.array (.object "java/lang/Object"))), Cond.methodLink RJx4a65c 69 yJx4a65c_grow_92f84, Cond.instanceMethod yJx4a65c_grow_92f84, Cond.selects RJx4a65c yJx4a65c_grow_92f84 yJx4a65c_grow_92f84, Cond.code yJx4a65c_grow_92f84 cJx4a65c_grow_92f84 4 (some (.array (.object "java/lang/Object"))), Cond.fieldLink RJx4a65c 39 "java/util/ArrayList" "DEFAULTCAPACITY_EMPTY_ELEMENTDATA" "[Ljava/lang/Object;", Cond.methodLink RJx4a65c 79 Lib.Math.max.name]
def wsX11_addCall_r7 : List Cond := [Cond.static Lib.Math.max.name, Cond.initialized "java/lang/Math", Cond.code Lib.Math.max.name Lib.Math.max.code 2 (some .int), Cond.classLink RJx4a65c 7 "java/lang/Object", Cond.methodLink RJx4a65c 73 yJ8_newLength_cabcc, Cond.static yJ8_newLength_cabcc, Cond.initialized RJ8, Cond.code yJ8_newLength_cabcc cJ8_newLength_cabcc 4 (some .int), Cond.methodLink RJ8 194 Lib.Math.max.name, Cond.constant RJ8 200 (2147483639), Cond.methodLink RJ8 201 yJ8_hugeLength_7cf53, Cond.static yJ8_hugeLength_7cf53, Cond.code yJ8_hugeLength_7cf53 cJ8_hugeLength_7cf53 3 (some .int), Cond.methodLink RJx4a65c 66 yJ7_copyOf_1904c, Cond.static yJ7_copyOf_1904c, Cond.initialized RJ7, Cond.code yJ7_copyOf_1904c cJ7_copyOf_1904c 2 (some (.array (.object "java/lang/Object"))), Cond.methodLink RJ7 86 ⟨"java/lang/Object", "getClass", "()Ljava/lang/Class;"⟩, Cond.selects "[Ljava/lang/Object;" ⟨"java/lang/Object", "getClass", "()Ljava/lang/Class;"⟩ ⟨"java/lang/Object", "getClass", "()Ljava/lang/Class;"⟩, Cond.instanceMethod ⟨"java/lang/Object", "getClass", "()Ljava/lang/Class;"⟩, Cond.native ⟨"java/lang/Object", "getClass", "()Ljava/lang/Class;"⟩, Cond.methodLink RJ7 300 yJ7_copyOf_6403c, Cond.static yJ7_copyOf_6403c, Cond.code yJ7_copyOf_6403c cJ7_copyOf_6403c 4 (some (.array (.object "java/lang/Object")))]
def wsX11_addCall_r8 : List Cond := [Cond.classLink RJ7 110 "[Ljava/lang/Object;", Cond.classLink RJ7 2 "java/lang/Object", Cond.methodLink RJ7 304 Lib.Math.min.name, Cond.static Lib.Math.min.name, Cond.code Lib.Math.min.name Lib.Math.min.code 2 (some .int), Cond.methodLink RJ7 150 arraycopyName, Cond.native arraycopyName, Cond.static arraycopyName, Cond.initialized "java/lang/System"]
def wsX11_addCall : List Cond := .code yX11_addCall cX11_addCall 11 (some .int) :: ((wsX11_addCall_r1 ++ (wsX11_addCall_r2 ++ (wsX11_addCall_r3 ++ (wsX11_addCall_r4 ++ (wsX11_addCall_r5 ++ (wsX11_addCall_r6 ++ (wsX11_addCall_r7 ++ wsX11_addCall_r8))))))) ++ wsX110 ++ wsX30 ++ wsX70 ++ wsJx4a65c0 ++ wsX60 ++ wsX90 ++ wsX10 ++ (vx_at0 RX11 82 "java/lang/IndexOutOfBoundsException" ["java/lang/RuntimeException", "java/lang/Exception"]).filter goodWord ++ (vx_atM "java/lang/ArrayIndexOutOfBoundsException" ["java/lang/IndexOutOfBoundsException", "java/lang/RuntimeException", "java/lang/Exception"]).filter goodWord ++ (vx_at0 RX11 85 "java/lang/IllegalArgumentException" ["java/lang/RuntimeException", "java/lang/Exception"]).filter goodWord ++ (vx_at0 RX11 69 "java/lang/IllegalStateException" ["java/lang/RuntimeException", "java/lang/Exception"]).filter goodWord)
def wsX11_compile_r1 : List Cond := [Cond.classLink RX11 67 "java/lang/IllegalStateException", Cond.initialized "java/lang/IllegalStateException", Cond.fieldLink RX11 51 "ModedMill" "isCompiled" "Z", Cond.fieldLink RX11 19 "ModedMill" "program" "LModedMill$Program;", Cond.fieldLink RX11 10 "ModedMill" "store" "LModedMill$Terms;", Cond.methodLink RX11 192 yX7_analyse, Cond.instanceMethod yX7_analyse, Cond.selects RX7 yX7_analyse yX7_analyse, Cond.initialized RX7, Cond.code yX7_analyse cX7_analyse 4 none, Cond.fieldLink RX7 18 "ModedMill$Program" "modes" "Ljava/util/ArrayList;", Cond.classLink RX7 51 "ModedMill$Mode", Cond.methodLink RX7 24 yJx4a65c_size_8abf5, Cond.instanceMethod yJx4a65c_size_8abf5, Cond.selects RJx4a65c yJx4a65c_size_8abf5 yJx4a65c_size_8abf5, Cond.initialized RJx4a65c, Cond.code yJx4a65c_size_8abf5 cJx4a65c_size_8abf5 1 (some .int), Cond.fieldLink RJx4a65c 48 "java/util/ArrayList" "size" "I", Cond.methodLink RX7 28 yJx4a65c_get_915e3, Cond.instanceMethod yJx4a65c_get_915e3, Cond.selects RJx4a65c yJx4a65c_get_915e3 yJx4a65c_get_915e3, Cond.code yJx4a65c_get_915e3 cJx4a65c_get_915e3 2 (some (.object "java/lang/Object")), Cond.methodLink RJx4a65c 118 yJ15_checkIndex_7cf53, Cond.static yJ15_checkIndex_7cf53]
def wsX11_compile_r2 : List Cond := [Cond.initialized RJ15, Cond.code yJ15_checkIndex_7cf53 cJ15_checkIndex_7cf53 2 (some .int), Cond.methodLink RJ15 105 yJ3_checkIndex_8e157, Cond.static yJ3_checkIndex_8e157, Cond.initialized RJ3, Cond.code yJ3_checkIndex_8e157 cJ3_checkIndex_8e157 3 (some .int), Cond.methodLink RJx4a65c 123 yJx4a65c_elementData_915e3, Cond.instanceMethod yJx4a65c_elementData_915e3, Cond.selects RJx4a65c yJx4a65c_elementData_915e3 yJx4a65c_elementData_915e3, Cond.code yJx4a65c_elementData_915e3 cJx4a65c_elementData_915e3 2 (some (.object "java/lang/Object")), Cond.fieldLink RJx4a65c 9 "java/util/ArrayList" "elementData" "[Ljava/lang/Object;", Cond.methodLink RX7 77 yX7_putInOrder, Cond.instanceMethod yX7_putInOrder, Cond.selects RX7 yX7_putInOrder yX7_putInOrder, Cond.code yX7_putInOrder cX7_putInOrder 5 (some .boolean), Cond.methodLink RX7 106 yX6_clauseCount, Cond.instanceMethod yX6_clauseCount, Cond.selects RX6 yX6_clauseCount yX6_clauseCount, Cond.initialized RX6, Cond.code yX6_clauseCount cX6_clauseCount 1 (some .int), Cond.fieldLink RX6 39 "ModedMill$Predicate" "clauses" "Ljava/util/ArrayList;", Cond.methodLink RX6 59 yJx4a65c_size_8abf5, Cond.methodLink RX7 109 yX6_clauseAt, Cond.instanceMethod yX6_clauseAt]
def wsX11_compile_r3 : List Cond := [Cond.selects RX6 yX6_clauseAt yX6_clauseAt, Cond.code yX6_clauseAt cX6_clauseAt 2 (some (.object "ModedMill$Clause")), Cond.classLink RX6 67 "ModedMill$Clause", Cond.methodLink RX6 62 yJx4a65c_get_915e3, Cond.methodLink RX7 113 yX7_putClauseInOrder, Cond.instanceMethod yX7_putClauseInOrder, Cond.selects RX7 yX7_putClauseInOrder yX7_putClauseInOrder, Cond.code yX7_putClauseInOrder cX7_putClauseInOrder 8 (some .boolean), Cond.methodLink RX7 117 yX1_clearOrder, Cond.instanceMethod yX1_clearOrder, Cond.selects RX1 yX1_clearOrder yX1_clearOrder, Cond.initialized RX1, Cond.code yX1_clearOrder cX1_clearOrder 2 none, Cond.fieldLink RX1 45 "ModedMill$Clause" "lengths" "[I", Cond.methodLink RX7 124 yX1_goalCount, Cond.instanceMethod yX1_goalCount, Cond.selects RX1 yX1_goalCount yX1_goalCount, Cond.code yX1_goalCount cX1_goalCount 1 (some .int), Cond.fieldLink RX1 41 "ModedMill$Clause" "goals" "Ljava/util/ArrayList;", Cond.methodLink RX1 71 yJx4a65c_size_8abf5, Cond.methodLink RX7 127 yX7_nextGoal, Cond.instanceMethod yX7_nextGoal, Cond.selects RX7 yX7_nextGoal yX7_nextGoal, Cond.code yX7_nextGoal cX7_nextGoal 7 (some .int)]
def wsX11_compile_r4 : List Cond := [Cond.methodLink RX7 131 yX1_goalNumbered, Cond.instanceMethod yX1_goalNumbered, Cond.selects RX1 yX1_goalNumbered yX1_goalNumbered, Cond.code yX1_goalNumbered cX1_goalNumbered 2 (some (.object "ModedMill$Goal")), Cond.classLink RX1 52 "ModedMill$Goal", Cond.methodLink RX1 75 yJx4a65c_get_915e3, Cond.methodLink RX7 135 yX7_chooseMode, Cond.instanceMethod yX7_chooseMode, Cond.selects RX7 yX7_chooseMode yX7_chooseMode, Cond.code yX7_chooseMode cX7_chooseMode 7 (some (.object "ModedMill$Mode")), Cond.methodLink RX7 162 yX3_isCalling, Cond.instanceMethod yX3_isCalling, Cond.selects RX3 yX3_isCalling yX3_isCalling, Cond.initialized RX3, Cond.code yX3_isCalling cX3_isCalling 1 (some .boolean), Cond.fieldLink RX3 9 "ModedMill$Goal" "kind" "I", Cond.methodLink RX7 36 yX7_predicateAt, Cond.instanceMethod yX7_predicateAt, Cond.selects RX7 yX7_predicateAt yX7_predicateAt, Cond.code yX7_predicateAt cX7_predicateAt 2 (some (.object "ModedMill$Predicate")), Cond.fieldLink RX7 12 "ModedMill$Program" "predicates" "Ljava/util/ArrayList;", Cond.classLink RX7 32 "ModedMill$Predicate", Cond.methodLink RX7 168 yX6_modeCount, Cond.instanceMethod yX6_modeCount]
def wsX11_compile_r5 : List Cond := [Cond.selects RX6 yX6_modeCount yX6_modeCount, Cond.code yX6_modeCount cX6_modeCount 1 (some .int), Cond.fieldLink RX6 35 "ModedMill$Predicate" "modes" "Ljava/util/ArrayList;", Cond.methodLink RX7 40 yX6_modeAt, Cond.instanceMethod yX6_modeAt, Cond.selects RX6 yX6_modeAt yX6_modeAt, Cond.code yX6_modeAt cX6_modeAt 2 (some (.object "ModedMill$Mode")), Cond.classLink RX6 65 "ModedMill$Mode", Cond.methodLink RX7 171 yX7_areInputsKnown, Cond.static yX7_areInputsKnown, Cond.code yX7_areInputsKnown cX7_areInputsKnown 4 (some .boolean), Cond.methodLink RX7 177 yX5_isInput, Cond.instanceMethod yX5_isInput, Cond.selects RX5 yX5_isInput yX5_isInput, Cond.initialized RX5, Cond.code yX5_isInput cX5_isInput 2 (some .boolean), Cond.fieldLink RX5 19 "ModedMill$Mode" "inputs" "I", Cond.methodLink RX7 156 yX3_variableAt, Cond.instanceMethod yX3_variableAt, Cond.selects RX3 yX3_variableAt yX3_variableAt, Cond.code yX3_variableAt cX3_variableAt 2 (some .int), Cond.fieldLink RX3 21 "ModedMill$Goal" "variables" "[I", Cond.methodLink RX7 152 yX7_canBeTaken, Cond.static yX7_canBeTaken]
def wsX11_compile_r6 : List Cond := [Cond.code yX7_canBeTaken cX7_canBeTaken 4 (some .boolean), Cond.methodLink RX7 143 yX3_variableSet, Cond.instanceMethod yX3_variableSet, Cond.selects RX3 yX3_variableSet yX3_variableSet, Cond.code yX3_variableSet cX3_variableSet 4 (some .int), Cond.fieldLink RX3 18 "ModedMill$Goal" "count" "I", Cond.methodLink RX3 25 yX3_variableAt, Cond.methodLink RX7 139 yX1_takeNext, Cond.instanceMethod yX1_takeNext, Cond.selects RX1 yX1_takeNext yX1_takeNext, Cond.code yX1_takeNext cX1_takeNext 7 none, Cond.fieldLink RX1 49 "ModedMill$Clause" "numbers" "[I", Cond.fieldLink RX1 54 "ModedMill$Clause" "ordered" "[LModedMill$Goal;", Cond.fieldLink RX1 60 "ModedMill$Clause" "chosen" "[LModedMill$Mode;", Cond.fieldLink RX1 64 "ModedMill$Clause" "known" "[I", Cond.methodLink RX1 96 yX1_placeCount, Cond.instanceMethod yX1_placeCount, Cond.selects RX1 yX1_placeCount yX1_placeCount, Cond.code yX1_placeCount cX1_placeCount 2 (some .int), Cond.methodLink RX1 99 yX1_slot, Cond.instanceMethod yX1_slot, Cond.selects RX1 yX1_slot yX1_slot, Cond.code yX1_slot cX1_slot 4 (some .int), Cond.methodLink RX1 102 yX1_goalNumbered]
def wsX11_compile_r7 : List Cond := [Cond.methodLink RX7 149 yX6_argumentSet, Cond.instanceMethod yX6_argumentSet, Cond.selects RX6 yX6_argumentSet yX6_argumentSet, Cond.code yX6_argumentSet cX6_argumentSet 1 (some .int), Cond.fieldLink RX6 20 "ModedMill$Predicate" "types" "LModedMill$Table;", Cond.methodLink RX6 51 yX9_count, Cond.instanceMethod yX9_count, Cond.selects RX9 yX9_count yX9_count, Cond.initialized RX9, Cond.code yX9_count cX9_count 1 (some .int), Cond.fieldLink RX9 20 "ModedMill$Table" "lines" "I", Cond.methodLink RX7 87 yX7_findSwitch, Cond.static yX7_findSwitch, Cond.code yX7_findSwitch cX7_findSwitch 7 (some .int), Cond.methodLink RX7 181 yX1_goalIn, Cond.instanceMethod yX1_goalIn, Cond.selects RX1 yX1_goalIn yX1_goalIn, Cond.code yX1_goalIn cX1_goalIn 4 (some (.object "ModedMill$Goal")), Cond.methodLink RX7 94 yX7_spreadFaults, Cond.instanceMethod yX7_spreadFaults, Cond.selects RX7 yX7_spreadFaults yX7_spreadFaults, Cond.code yX7_spreadFaults cX7_spreadFaults 4 (some .boolean), Cond.methodLink RX7 185 yX7_choosesBad, Cond.static yX7_choosesBad]
def wsX11_compile_r8 : List Cond := [Cond.code yX7_choosesBad cX7_choosesBad 6 (some .boolean), Cond.methodLink RX7 188 yX1_placeCount, Cond.methodLink RX7 191 yX1_chosenIn, Cond.instanceMethod yX1_chosenIn, Cond.selects RX1 yX1_chosenIn yX1_chosenIn, Cond.code yX1_chosenIn cX1_chosenIn 4 (some (.object "ModedMill$Mode")), Cond.methodLink RX7 98 yX7_spreadFound, Cond.instanceMethod yX7_spreadFound, Cond.selects RX7 yX7_spreadFound yX7_spreadFound, Cond.code yX7_spreadFound cX7_spreadFound 7 (some .boolean), Cond.methodLink RX7 195 yX7_canModeFail, Cond.static yX7_canModeFail, Cond.code yX7_canModeFail cX7_canModeFail 4 (some .boolean), Cond.methodLink RX7 202 yX7_canClauseFail, Cond.static yX7_canClauseFail, Cond.code yX7_canClauseFail cX7_canClauseFail 8 (some .boolean), Cond.methodLink RX7 222 yX1_knownIn, Cond.instanceMethod yX1_knownIn, Cond.selects RX1 yX1_knownIn yX1_knownIn, Cond.code yX1_knownIn cX1_knownIn 4 (some .int), Cond.methodLink RX7 226 yX7_clashes, Cond.static yX7_clashes, Cond.code yX7_clashes cX7_clashes 5 (some .boolean), Cond.methodLink RX7 229 yX7_canGoalFail]
def wsX11_compile_r9 : List Cond := [Cond.static yX7_canGoalFail, Cond.code yX7_canGoalFail cX7_canGoalFail 4 (some .boolean), Cond.methodLink RX7 205 yX7_isTypeCovered, Cond.static yX7_isTypeCovered, Cond.code yX7_isTypeCovered cX7_isTypeCovered 5 (some .boolean), Cond.methodLink RX7 208 yX6_typeAt, Cond.instanceMethod yX6_typeAt, Cond.selects RX6 yX6_typeAt yX6_typeAt, Cond.code yX6_typeAt cX6_typeAt 2 (some .int), Cond.methodLink RX6 55 yX9_get, Cond.instanceMethod yX9_get, Cond.selects RX9 yX9_get yX9_get, Cond.code yX9_get cX9_get 5 (some .int), Cond.fieldLink RX9 9 "ModedMill$Table" "columns" "I", Cond.fieldLink RX9 16 "ModedMill$Table" "cells" "[I", Cond.methodLink RX7 211 yX10_constructorCount, Cond.instanceMethod yX10_constructorCount, Cond.selects RX10 yX10_constructorCount yX10_constructorCount, Cond.initialized RX10, Cond.code yX10_constructorCount cX10_constructorCount 1 (some .int), Cond.fieldLink RX10 20 "ModedMill$Terms" "constructors" "LModedMill$Table;", Cond.methodLink RX10 38 yX9_count, Cond.methodLink RX7 216 yX10_typeOfHead, Cond.instanceMethod yX10_typeOfHead]
def wsX11_compile_r10 : List Cond := [Cond.selects RX10 yX10_typeOfHead yX10_typeOfHead, Cond.code yX10_typeOfHead cX10_typeOfHead 2 (some .int), Cond.methodLink RX10 42 yX9_get, Cond.methodLink RX7 199 yX7_canModeRepeat, Cond.static yX7_canModeRepeat, Cond.code yX7_canModeRepeat cX7_canModeRepeat 3 (some .boolean), Cond.methodLink RX7 219 yX7_canClauseRepeat, Cond.static yX7_canClauseRepeat, Cond.code yX7_canClauseRepeat cX7_canClauseRepeat 6 (some .boolean), Cond.methodLink RX11 196 yX7_faultCount, Cond.instanceMethod yX7_faultCount, Cond.selects RX7 yX7_faultCount yX7_faultCount, Cond.code yX7_faultCount cX7_faultCount 3 (some .int), Cond.methodLink RX7 66 yX5_faultSign, Cond.instanceMethod yX5_faultSign, Cond.selects RX5 yX5_faultSign yX5_faultSign, Cond.code yX5_faultSign cX5_faultSign 1 (some .char), Cond.fieldLink RX5 36 "ModedMill$Mode" "lost" "Z", Cond.fieldLink RX5 39 "ModedMill$Mode" "good" "Z", Cond.methodLink RX5 42 yX5_isBroken, Cond.instanceMethod yX5_isBroken, Cond.selects RX5 yX5_isBroken yX5_isBroken, Cond.code yX5_isBroken cX5_isBroken 3 (some .boolean), Cond.fieldLink RX5 33 "ModedMill$Mode" "canFail" "Z"]
def wsX11_compile_r11 : List Cond := [Cond.fieldLink RX5 22 "ModedMill$Mode" "promise" "C", Cond.fieldLink RX5 29 "ModedMill$Mode" "canRepeat" "Z"]
def wsX11_compile : List Cond := .code yX11_compile cX11_compile 1 (some .int) :: ((wsX11_compile_r1 ++ (wsX11_compile_r2 ++ (wsX11_compile_r3 ++ (wsX11_compile_r4 ++ (wsX11_compile_r5 ++ (wsX11_compile_r6 ++ (wsX11_compile_r7 ++ (wsX11_compile_r8 ++ (wsX11_compile_r9 ++ (wsX11_compile_r10 ++ wsX11_compile_r11)))))))))) ++ wsX110 ++ wsX70 ++ wsX50 ++ wsJx4a65c0 ++ wsX60 ++ wsX10 ++ wsX30 ++ wsX90 ++ wsX100 ++ (vx_at0 RX11 69 "java/lang/IllegalStateException" ["java/lang/RuntimeException", "java/lang/Exception"]).filter goodWord ++ (vx_atM "java/lang/ArrayIndexOutOfBoundsException" ["java/lang/IndexOutOfBoundsException", "java/lang/RuntimeException", "java/lang/Exception"]).filter goodWord)
def wsX11_refuseUncompiled : List Cond := .code yX11_refuseUncompiled cX11_refuseUncompiled 1 none :: ([.classLink RX11 67 "java/lang/IllegalStateException", .initialized "java/lang/IllegalStateException", .fieldLink RX11 51 "ModedMill" "isCompiled" "Z"] ++ wsX110 ++ (vx_at0 RX11 69 "java/lang/IllegalStateException" ["java/lang/RuntimeException", "java/lang/Exception"]).filter goodWord)
def wsX11_open : List Cond := .code yX11_open cX11_open 2 (some .int) :: ([.fieldLink RX11 55 "ModedMill" "asked" "I", .fieldLink RX11 51 "ModedMill" "isCompiled" "Z", .fieldLink RX11 59 "ModedMill" "stepSum" "J", .methodLink RX11 199 yX11_refuseUncompiled, .instanceMethod yX11_refuseUncompiled, .selects RX11 yX11_refuseUncompiled yX11_refuseUncompiled, .initialized RX11, .code yX11_refuseUncompiled cX11_refuseUncompiled 1 none, .classLink RX11 67 "java/lang/IllegalStateException", .initialized "java/lang/IllegalStateException"] ++ wsX110 ++ (vx_at0 RX11 69 "java/lang/IllegalStateException" ["java/lang/RuntimeException", "java/lang/Exception"]).filter goodWord)
def wsX11_compiledMode_r1 : List Cond := [Cond.classLink RX11 80 "java/lang/IndexOutOfBoundsException", Cond.initialized "java/lang/IndexOutOfBoundsException", Cond.fieldLink RX11 19 "ModedMill" "program" "LModedMill$Program;", Cond.methodLink RX11 237 yX7_modeAt, Cond.instanceMethod yX7_modeAt, Cond.selects RX7 yX7_modeAt yX7_modeAt, Cond.initialized RX7, Cond.code yX7_modeAt cX7_modeAt 4 (some (.object "ModedMill$Mode")), Cond.methodLink RX7 36 yX7_predicateAt, Cond.instanceMethod yX7_predicateAt, Cond.selects RX7 yX7_predicateAt yX7_predicateAt, Cond.code yX7_predicateAt cX7_predicateAt 2 (some (.object "ModedMill$Predicate")), Cond.fieldLink RX7 12 "ModedMill$Program" "predicates" "Ljava/util/ArrayList;", Cond.classLink RX7 32 "ModedMill$Predicate", Cond.methodLink RX7 24 yJx4a65c_size_8abf5, Cond.instanceMethod yJx4a65c_size_8abf5, Cond.selects RJx4a65c yJx4a65c_size_8abf5 yJx4a65c_size_8abf5, Cond.initialized RJx4a65c, Cond.code yJx4a65c_size_8abf5 cJx4a65c_size_8abf5 1 (some .int), Cond.fieldLink RJx4a65c 48 "java/util/ArrayList" "size" "I", Cond.methodLink RX7 28 yJx4a65c_get_915e3, Cond.instanceMethod yJx4a65c_get_915e3, Cond.selects RJx4a65c yJx4a65c_get_915e3 yJx4a65c_get_915e3, Cond.code yJx4a65c_get_915e3 cJx4a65c_get_915e3 2 (some (.object "java/lang/Object"))]
def wsX11_compiledMode_r2 : List Cond := [Cond.methodLink RJx4a65c 118 yJ15_checkIndex_7cf53, Cond.static yJ15_checkIndex_7cf53, Cond.initialized RJ15, Cond.code yJ15_checkIndex_7cf53 cJ15_checkIndex_7cf53 2 (some .int), Cond.methodLink RJ15 105 yJ3_checkIndex_8e157, Cond.static yJ3_checkIndex_8e157, Cond.initialized RJ3, Cond.code yJ3_checkIndex_8e157 cJ3_checkIndex_8e157 3 (some .int), Cond.methodLink RJx4a65c 123 yJx4a65c_elementData_915e3, Cond.instanceMethod yJx4a65c_elementData_915e3, Cond.selects RJx4a65c yJx4a65c_elementData_915e3 yJx4a65c_elementData_915e3, Cond.code yJx4a65c_elementData_915e3 cJx4a65c_elementData_915e3 2 (some (.object "java/lang/Object")), Cond.fieldLink RJx4a65c 9 "java/util/ArrayList" "elementData" "[Ljava/lang/Object;", Cond.methodLink RX7 40 yX6_modeAt, Cond.instanceMethod yX6_modeAt, Cond.selects RX6 yX6_modeAt yX6_modeAt, Cond.initialized RX6, Cond.code yX6_modeAt cX6_modeAt 2 (some (.object "ModedMill$Mode")), Cond.fieldLink RX6 35 "ModedMill$Predicate" "modes" "Ljava/util/ArrayList;", Cond.classLink RX6 65 "ModedMill$Mode", Cond.methodLink RX6 59 yJx4a65c_size_8abf5, Cond.methodLink RX6 62 yJx4a65c_get_915e3, Cond.methodLink RX11 199 yX11_refuseUncompiled, Cond.instanceMethod yX11_refuseUncompiled]
def wsX11_compiledMode_r3 : List Cond := [Cond.selects RX11 yX11_refuseUncompiled yX11_refuseUncompiled, Cond.initialized RX11, Cond.code yX11_refuseUncompiled cX11_refuseUncompiled 1 none, Cond.classLink RX11 67 "java/lang/IllegalStateException", Cond.initialized "java/lang/IllegalStateException", Cond.fieldLink RX11 51 "ModedMill" "isCompiled" "Z"]
def wsX11_compiledMode : List Cond := .code yX11_compiledMode cX11_compiledMode 4 (some (.object "ModedMill$Mode")) :: ((wsX11_compiledMode_r1 ++ (wsX11_compiledMode_r2 ++ wsX11_compiledMode_r3)) ++ wsX110 ++ wsX70 ++ wsJx4a65c0 ++ wsX60 ++ (vx_at0 RX11 82 "java/lang/IndexOutOfBoundsException" ["java/lang/RuntimeException", "java/lang/Exception"]).filter goodWord ++ (vx_at0 RX11 69 "java/lang/IllegalStateException" ["java/lang/RuntimeException", "java/lang/Exception"]).filter goodWord)
def wsX11_fault_r1 : List Cond := [Cond.methodLink RX11 202 yX11_compiledMode, Cond.instanceMethod yX11_compiledMode, Cond.selects RX11 yX11_compiledMode yX11_compiledMode, Cond.initialized RX11, Cond.code yX11_compiledMode cX11_compiledMode 4 (some (.object "ModedMill$Mode")), Cond.classLink RX11 80 "java/lang/IndexOutOfBoundsException", Cond.initialized "java/lang/IndexOutOfBoundsException", Cond.fieldLink RX11 19 "ModedMill" "program" "LModedMill$Program;", Cond.methodLink RX11 237 yX7_modeAt, Cond.instanceMethod yX7_modeAt, Cond.selects RX7 yX7_modeAt yX7_modeAt, Cond.initialized RX7, Cond.code yX7_modeAt cX7_modeAt 4 (some (.object "ModedMill$Mode")), Cond.methodLink RX7 36 yX7_predicateAt, Cond.instanceMethod yX7_predicateAt, Cond.selects RX7 yX7_predicateAt yX7_predicateAt, Cond.code yX7_predicateAt cX7_predicateAt 2 (some (.object "ModedMill$Predicate")), Cond.fieldLink RX7 12 "ModedMill$Program" "predicates" "Ljava/util/ArrayList;", Cond.classLink RX7 32 "ModedMill$Predicate", Cond.methodLink RX7 24 yJx4a65c_size_8abf5, Cond.instanceMethod yJx4a65c_size_8abf5, Cond.selects RJx4a65c yJx4a65c_size_8abf5 yJx4a65c_size_8abf5, Cond.initialized RJx4a65c, Cond.code yJx4a65c_size_8abf5 cJx4a65c_size_8abf5 1 (some .int)]
def wsX11_fault_r2 : List Cond := [Cond.fieldLink RJx4a65c 48 "java/util/ArrayList" "size" "I", Cond.methodLink RX7 28 yJx4a65c_get_915e3, Cond.instanceMethod yJx4a65c_get_915e3, Cond.selects RJx4a65c yJx4a65c_get_915e3 yJx4a65c_get_915e3, Cond.code yJx4a65c_get_915e3 cJx4a65c_get_915e3 2 (some (.object "java/lang/Object")), Cond.methodLink RJx4a65c 118 yJ15_checkIndex_7cf53, Cond.static yJ15_checkIndex_7cf53, Cond.initialized RJ15, Cond.code yJ15_checkIndex_7cf53 cJ15_checkIndex_7cf53 2 (some .int), Cond.methodLink RJ15 105 yJ3_checkIndex_8e157, Cond.static yJ3_checkIndex_8e157, Cond.initialized RJ3, Cond.code yJ3_checkIndex_8e157 cJ3_checkIndex_8e157 3 (some .int), Cond.methodLink RJx4a65c 123 yJx4a65c_elementData_915e3, Cond.instanceMethod yJx4a65c_elementData_915e3, Cond.selects RJx4a65c yJx4a65c_elementData_915e3 yJx4a65c_elementData_915e3, Cond.code yJx4a65c_elementData_915e3 cJx4a65c_elementData_915e3 2 (some (.object "java/lang/Object")), Cond.fieldLink RJx4a65c 9 "java/util/ArrayList" "elementData" "[Ljava/lang/Object;", Cond.methodLink RX7 40 yX6_modeAt, Cond.instanceMethod yX6_modeAt, Cond.selects RX6 yX6_modeAt yX6_modeAt, Cond.initialized RX6, Cond.code yX6_modeAt cX6_modeAt 2 (some (.object "ModedMill$Mode")), Cond.fieldLink RX6 35 "ModedMill$Predicate" "modes" "Ljava/util/ArrayList;"]
def wsX11_fault_r3 : List Cond := [Cond.classLink RX6 65 "ModedMill$Mode", Cond.methodLink RX6 59 yJx4a65c_size_8abf5, Cond.methodLink RX6 62 yJx4a65c_get_915e3, Cond.methodLink RX11 199 yX11_refuseUncompiled, Cond.instanceMethod yX11_refuseUncompiled, Cond.selects RX11 yX11_refuseUncompiled yX11_refuseUncompiled, Cond.code yX11_refuseUncompiled cX11_refuseUncompiled 1 none, Cond.classLink RX11 67 "java/lang/IllegalStateException", Cond.initialized "java/lang/IllegalStateException", Cond.fieldLink RX11 51 "ModedMill" "isCompiled" "Z", Cond.methodLink RX11 206 yX5_faultSign, Cond.instanceMethod yX5_faultSign, Cond.selects RX5 yX5_faultSign yX5_faultSign, Cond.initialized RX5, Cond.code yX5_faultSign cX5_faultSign 1 (some .char), Cond.fieldLink RX5 36 "ModedMill$Mode" "lost" "Z", Cond.fieldLink RX5 39 "ModedMill$Mode" "good" "Z", Cond.methodLink RX5 42 yX5_isBroken, Cond.instanceMethod yX5_isBroken, Cond.selects RX5 yX5_isBroken yX5_isBroken, Cond.code yX5_isBroken cX5_isBroken 3 (some .boolean), Cond.fieldLink RX5 33 "ModedMill$Mode" "canFail" "Z", Cond.fieldLink RX5 22 "ModedMill$Mode" "promise" "C", Cond.fieldLink RX5 29 "ModedMill$Mode" "canRepeat" "Z"]
def wsX11_fault : List Cond := .code yX11_fault cX11_fault 3 (some .char) :: ((wsX11_fault_r1 ++ (wsX11_fault_r2 ++ wsX11_fault_r3)) ++ wsX110 ++ wsX70 ++ wsJx4a65c0 ++ wsX60 ++ wsX50 ++ (vx_at0 RX11 82 "java/lang/IndexOutOfBoundsException" ["java/lang/RuntimeException", "java/lang/Exception"]).filter goodWord ++ (vx_at0 RX11 69 "java/lang/IllegalStateException" ["java/lang/RuntimeException", "java/lang/Exception"]).filter goodWord)
def wsX11_isGood_r1 : List Cond := [Cond.methodLink RX11 202 yX11_compiledMode, Cond.instanceMethod yX11_compiledMode, Cond.selects RX11 yX11_compiledMode yX11_compiledMode, Cond.initialized RX11, Cond.code yX11_compiledMode cX11_compiledMode 4 (some (.object "ModedMill$Mode")), Cond.classLink RX11 80 "java/lang/IndexOutOfBoundsException", Cond.initialized "java/lang/IndexOutOfBoundsException", Cond.fieldLink RX11 19 "ModedMill" "program" "LModedMill$Program;", Cond.methodLink RX11 237 yX7_modeAt, Cond.instanceMethod yX7_modeAt, Cond.selects RX7 yX7_modeAt yX7_modeAt, Cond.initialized RX7, Cond.code yX7_modeAt cX7_modeAt 4 (some (.object "ModedMill$Mode")), Cond.methodLink RX7 36 yX7_predicateAt, Cond.instanceMethod yX7_predicateAt, Cond.selects RX7 yX7_predicateAt yX7_predicateAt, Cond.code yX7_predicateAt cX7_predicateAt 2 (some (.object "ModedMill$Predicate")), Cond.fieldLink RX7 12 "ModedMill$Program" "predicates" "Ljava/util/ArrayList;", Cond.classLink RX7 32 "ModedMill$Predicate", Cond.methodLink RX7 24 yJx4a65c_size_8abf5, Cond.instanceMethod yJx4a65c_size_8abf5, Cond.selects RJx4a65c yJx4a65c_size_8abf5 yJx4a65c_size_8abf5, Cond.initialized RJx4a65c, Cond.code yJx4a65c_size_8abf5 cJx4a65c_size_8abf5 1 (some .int)]
def wsX11_isGood_r2 : List Cond := [Cond.fieldLink RJx4a65c 48 "java/util/ArrayList" "size" "I", Cond.methodLink RX7 28 yJx4a65c_get_915e3, Cond.instanceMethod yJx4a65c_get_915e3, Cond.selects RJx4a65c yJx4a65c_get_915e3 yJx4a65c_get_915e3, Cond.code yJx4a65c_get_915e3 cJx4a65c_get_915e3 2 (some (.object "java/lang/Object")), Cond.methodLink RJx4a65c 118 yJ15_checkIndex_7cf53, Cond.static yJ15_checkIndex_7cf53, Cond.initialized RJ15, Cond.code yJ15_checkIndex_7cf53 cJ15_checkIndex_7cf53 2 (some .int), Cond.methodLink RJ15 105 yJ3_checkIndex_8e157, Cond.static yJ3_checkIndex_8e157, Cond.initialized RJ3, Cond.code yJ3_checkIndex_8e157 cJ3_checkIndex_8e157 3 (some .int), Cond.methodLink RJx4a65c 123 yJx4a65c_elementData_915e3, Cond.instanceMethod yJx4a65c_elementData_915e3, Cond.selects RJx4a65c yJx4a65c_elementData_915e3 yJx4a65c_elementData_915e3, Cond.code yJx4a65c_elementData_915e3 cJx4a65c_elementData_915e3 2 (some (.object "java/lang/Object")), Cond.fieldLink RJx4a65c 9 "java/util/ArrayList" "elementData" "[Ljava/lang/Object;", Cond.methodLink RX7 40 yX6_modeAt, Cond.instanceMethod yX6_modeAt, Cond.selects RX6 yX6_modeAt yX6_modeAt, Cond.initialized RX6, Cond.code yX6_modeAt cX6_modeAt 2 (some (.object "ModedMill$Mode")), Cond.fieldLink RX6 35 "ModedMill$Predicate" "modes" "Ljava/util/ArrayList;"]
def wsX11_isGood_r3 : List Cond := [Cond.classLink RX6 65 "ModedMill$Mode", Cond.methodLink RX6 59 yJx4a65c_size_8abf5, Cond.methodLink RX6 62 yJx4a65c_get_915e3, Cond.methodLink RX11 199 yX11_refuseUncompiled, Cond.instanceMethod yX11_refuseUncompiled, Cond.selects RX11 yX11_refuseUncompiled yX11_refuseUncompiled, Cond.code yX11_refuseUncompiled cX11_refuseUncompiled 1 none, Cond.classLink RX11 67 "java/lang/IllegalStateException", Cond.initialized "java/lang/IllegalStateException", Cond.fieldLink RX11 51 "ModedMill" "isCompiled" "Z"]
def wsX11_isGood : List Cond := .code yX11_isGood cX11_isGood 3 (some .boolean) :: ((wsX11_isGood_r1 ++ (wsX11_isGood_r2 ++ wsX11_isGood_r3)) ++ wsX50 ++ wsX110 ++ wsX70 ++ wsJx4a65c0 ++ wsX60 ++ (vx_at0 RX11 82 "java/lang/IndexOutOfBoundsException" ["java/lang/RuntimeException", "java/lang/Exception"]).filter goodWord ++ (vx_at0 RX11 69 "java/lang/IllegalStateException" ["java/lang/RuntimeException", "java/lang/Exception"]).filter goodWord)
def wsX11_found_r1 : List Cond := [Cond.classLink RX11 117 "java/util/NoSuchElementException", Cond.initialized "java/util/NoSuchElementException", Cond.methodLink RX11 202 yX11_compiledMode, Cond.instanceMethod yX11_compiledMode, Cond.selects RX11 yX11_compiledMode yX11_compiledMode, Cond.initialized RX11, Cond.code yX11_compiledMode cX11_compiledMode 4 (some (.object "ModedMill$Mode")), Cond.classLink RX11 80 "java/lang/IndexOutOfBoundsException", Cond.initialized "java/lang/IndexOutOfBoundsException", Cond.fieldLink RX11 19 "ModedMill" "program" "LModedMill$Program;", Cond.methodLink RX11 237 yX7_modeAt, Cond.instanceMethod yX7_modeAt, Cond.selects RX7 yX7_modeAt yX7_modeAt, Cond.initialized RX7, Cond.code yX7_modeAt cX7_modeAt 4 (some (.object "ModedMill$Mode")), Cond.methodLink RX7 36 yX7_predicateAt, Cond.instanceMethod yX7_predicateAt, Cond.selects RX7 yX7_predicateAt yX7_predicateAt, Cond.code yX7_predicateAt cX7_predicateAt 2 (some (.object "ModedMill$Predicate")), Cond.fieldLink RX7 12 "ModedMill$Program" "predicates" "Ljava/util/ArrayList;", Cond.classLink RX7 32 "ModedMill$Predicate", Cond.methodLink RX7 24 yJx4a65c_size_8abf5, Cond.instanceMethod yJx4a65c_size_8abf5, Cond.selects RJx4a65c yJx4a65c_size_8abf5 yJx4a65c_size_8abf5]
def wsX11_found_r2 : List Cond := [Cond.initialized RJx4a65c, Cond.code yJx4a65c_size_8abf5 cJx4a65c_size_8abf5 1 (some .int), Cond.fieldLink RJx4a65c 48 "java/util/ArrayList" "size" "I", Cond.methodLink RX7 28 yJx4a65c_get_915e3, Cond.instanceMethod yJx4a65c_get_915e3, Cond.selects RJx4a65c yJx4a65c_get_915e3 yJx4a65c_get_915e3, Cond.code yJx4a65c_get_915e3 cJx4a65c_get_915e3 2 (some (.object "java/lang/Object")), Cond.methodLink RJx4a65c 118 yJ15_checkIndex_7cf53, Cond.static yJ15_checkIndex_7cf53, Cond.initialized RJ15, Cond.code yJ15_checkIndex_7cf53 cJ15_checkIndex_7cf53 2 (some .int), Cond.methodLink RJ15 105 yJ3_checkIndex_8e157, Cond.static yJ3_checkIndex_8e157, Cond.initialized RJ3, Cond.code yJ3_checkIndex_8e157 cJ3_checkIndex_8e157 3 (some .int), Cond.methodLink RJx4a65c 123 yJx4a65c_elementData_915e3, Cond.instanceMethod yJx4a65c_elementData_915e3, Cond.selects RJx4a65c yJx4a65c_elementData_915e3 yJx4a65c_elementData_915e3, Cond.code yJx4a65c_elementData_915e3 cJx4a65c_elementData_915e3 2 (some (.object "java/lang/Object")), Cond.fieldLink RJx4a65c 9 "java/util/ArrayList" "elementData" "[Ljava/lang/Object;", Cond.methodLink RX7 40 yX6_modeAt, Cond.instanceMethod yX6_modeAt, Cond.selects RX6 yX6_modeAt yX6_modeAt, Cond.initialized RX6]
def wsX11_found_r3 : List Cond := [Cond.code yX6_modeAt cX6_modeAt 2 (some (.object "ModedMill$Mode")), Cond.fieldLink RX6 35 "ModedMill$Predicate" "modes" "Ljava/util/ArrayList;", Cond.classLink RX6 65 "ModedMill$Mode", Cond.methodLink RX6 59 yJx4a65c_size_8abf5, Cond.methodLink RX6 62 yJx4a65c_get_915e3, Cond.methodLink RX11 199 yX11_refuseUncompiled, Cond.instanceMethod yX11_refuseUncompiled, Cond.selects RX11 yX11_refuseUncompiled yX11_refuseUncompiled, Cond.code yX11_refuseUncompiled cX11_refuseUncompiled 1 none, Cond.classLink RX11 67 "java/lang/IllegalStateException", Cond.initialized "java/lang/IllegalStateException", Cond.fieldLink RX11 51 "ModedMill" "isCompiled" "Z", Cond.methodLink RX11 215 yX5_foundSign, Cond.instanceMethod yX5_foundSign, Cond.selects RX5 yX5_foundSign yX5_foundSign, Cond.initialized RX5, Cond.code yX5_foundSign cX5_foundSign 1 (some .char), Cond.fieldLink RX5 29 "ModedMill$Mode" "canRepeat" "Z", Cond.fieldLink RX5 33 "ModedMill$Mode" "canFail" "Z"]
def wsX11_found : List Cond := .code yX11_found cX11_found 4 (some .char) :: ((wsX11_found_r1 ++ (wsX11_found_r2 ++ wsX11_found_r3)) ++ wsX50 ++ wsX110 ++ wsX70 ++ wsJx4a65c0 ++ wsX60 ++ (vx_at0 RX11 119 "java/util/NoSuchElementException" ["java/lang/RuntimeException", "java/lang/Exception"]).filter goodWord ++ (vx_at0 RX11 82 "java/lang/IndexOutOfBoundsException" ["java/lang/RuntimeException", "java/lang/Exception"]).filter goodWord ++ (vx_at0 RX11 69 "java/lang/IllegalStateException" ["java/lang/RuntimeException", "java/lang/Exception"]).filter goodWord)
def wsX11_switchOf_r1 : List Cond := [Cond.classLink RX11 117 "java/util/NoSuchElementException", Cond.initialized "java/util/NoSuchElementException", Cond.methodLink RX11 202 yX11_compiledMode, Cond.instanceMethod yX11_compiledMode, Cond.selects RX11 yX11_compiledMode yX11_compiledMode, Cond.initialized RX11, Cond.code yX11_compiledMode cX11_compiledMode 4 (some (.object "ModedMill$Mode")), Cond.classLink RX11 80 "java/lang/IndexOutOfBoundsException", Cond.initialized "java/lang/IndexOutOfBoundsException", Cond.fieldLink RX11 19 "ModedMill" "program" "LModedMill$Program;", Cond.methodLink RX11 237 yX7_modeAt, Cond.instanceMethod yX7_modeAt, Cond.selects RX7 yX7_modeAt yX7_modeAt, Cond.initialized RX7, Cond.code yX7_modeAt cX7_modeAt 4 (some (.object "ModedMill$Mode")), Cond.methodLink RX7 36 yX7_predicateAt, Cond.instanceMethod yX7_predicateAt, Cond.selects RX7 yX7_predicateAt yX7_predicateAt, Cond.code yX7_predicateAt cX7_predicateAt 2 (some (.object "ModedMill$Predicate")), Cond.fieldLink RX7 12 "ModedMill$Program" "predicates" "Ljava/util/ArrayList;", Cond.classLink RX7 32 "ModedMill$Predicate", Cond.methodLink RX7 24 yJx4a65c_size_8abf5, Cond.instanceMethod yJx4a65c_size_8abf5, Cond.selects RJx4a65c yJx4a65c_size_8abf5 yJx4a65c_size_8abf5]
def wsX11_switchOf_r2 : List Cond := [Cond.initialized RJx4a65c, Cond.code yJx4a65c_size_8abf5 cJx4a65c_size_8abf5 1 (some .int), Cond.fieldLink RJx4a65c 48 "java/util/ArrayList" "size" "I", Cond.methodLink RX7 28 yJx4a65c_get_915e3, Cond.instanceMethod yJx4a65c_get_915e3, Cond.selects RJx4a65c yJx4a65c_get_915e3 yJx4a65c_get_915e3, Cond.code yJx4a65c_get_915e3 cJx4a65c_get_915e3 2 (some (.object "java/lang/Object")), Cond.methodLink RJx4a65c 118 yJ15_checkIndex_7cf53, Cond.static yJ15_checkIndex_7cf53, Cond.initialized RJ15, Cond.code yJ15_checkIndex_7cf53 cJ15_checkIndex_7cf53 2 (some .int), Cond.methodLink RJ15 105 yJ3_checkIndex_8e157, Cond.static yJ3_checkIndex_8e157, Cond.initialized RJ3, Cond.code yJ3_checkIndex_8e157 cJ3_checkIndex_8e157 3 (some .int), Cond.methodLink RJx4a65c 123 yJx4a65c_elementData_915e3, Cond.instanceMethod yJx4a65c_elementData_915e3, Cond.selects RJx4a65c yJx4a65c_elementData_915e3 yJx4a65c_elementData_915e3, Cond.code yJx4a65c_elementData_915e3 cJx4a65c_elementData_915e3 2 (some (.object "java/lang/Object")), Cond.fieldLink RJx4a65c 9 "java/util/ArrayList" "elementData" "[Ljava/lang/Object;", Cond.methodLink RX7 40 yX6_modeAt, Cond.instanceMethod yX6_modeAt, Cond.selects RX6 yX6_modeAt yX6_modeAt, Cond.initialized RX6]
def wsX11_switchOf_r3 : List Cond := [Cond.code yX6_modeAt cX6_modeAt 2 (some (.object "ModedMill$Mode")), Cond.fieldLink RX6 35 "ModedMill$Predicate" "modes" "Ljava/util/ArrayList;", Cond.classLink RX6 65 "ModedMill$Mode", Cond.methodLink RX6 59 yJx4a65c_size_8abf5, Cond.methodLink RX6 62 yJx4a65c_get_915e3, Cond.methodLink RX11 199 yX11_refuseUncompiled, Cond.instanceMethod yX11_refuseUncompiled, Cond.selects RX11 yX11_refuseUncompiled yX11_refuseUncompiled, Cond.code yX11_refuseUncompiled cX11_refuseUncompiled 1 none, Cond.classLink RX11 67 "java/lang/IllegalStateException", Cond.initialized "java/lang/IllegalStateException", Cond.fieldLink RX11 51 "ModedMill" "isCompiled" "Z"]
def wsX11_switchOf : List Cond := .code yX11_switchOf cX11_switchOf 4 (some .int) :: ((wsX11_switchOf_r1 ++ (wsX11_switchOf_r2 ++ wsX11_switchOf_r3)) ++ wsX50 ++ wsX110 ++ wsX70 ++ wsJx4a65c0 ++ wsX60 ++ (vx_at0 RX11 119 "java/util/NoSuchElementException" ["java/lang/RuntimeException", "java/lang/Exception"]).filter goodWord ++ (vx_at0 RX11 82 "java/lang/IndexOutOfBoundsException" ["java/lang/RuntimeException", "java/lang/Exception"]).filter goodWord ++ (vx_at0 RX11 69 "java/lang/IllegalStateException" ["java/lang/RuntimeException", "java/lang/Exception"]).filter goodWord)
def wsX11_orderedClause_r1 : List Cond := [Cond.classLink RX11 80 "java/lang/IndexOutOfBoundsException", Cond.initialized "java/lang/IndexOutOfBoundsException", Cond.fieldLink RX11 19 "ModedMill" "program" "LModedMill$Program;", Cond.methodLink RX11 161 yX7_clauseAt, Cond.instanceMethod yX7_clauseAt, Cond.selects RX7 yX7_clauseAt yX7_clauseAt, Cond.initialized RX7, Cond.code yX7_clauseAt cX7_clauseAt 2 (some (.object "ModedMill$Clause")), Cond.fieldLink RX7 21 "ModedMill$Program" "clauses" "Ljava/util/ArrayList;", Cond.classLink RX7 34 "ModedMill$Clause", Cond.methodLink RX7 24 yJx4a65c_size_8abf5, Cond.instanceMethod yJx4a65c_size_8abf5, Cond.selects RJx4a65c yJx4a65c_size_8abf5 yJx4a65c_size_8abf5, Cond.initialized RJx4a65c, Cond.code yJx4a65c_size_8abf5 cJx4a65c_size_8abf5 1 (some .int), Cond.fieldLink RJx4a65c 48 "java/util/ArrayList" "size" "I", Cond.methodLink RX7 28 yJx4a65c_get_915e3, Cond.instanceMethod yJx4a65c_get_915e3, Cond.selects RJx4a65c yJx4a65c_get_915e3 yJx4a65c_get_915e3, Cond.code yJx4a65c_get_915e3 cJx4a65c_get_915e3 2 (some (.object "java/lang/Object")), Cond.methodLink RJx4a65c 118 yJ15_checkIndex_7cf53, Cond.static yJ15_checkIndex_7cf53, Cond.initialized RJ15, Cond.code yJ15_checkIndex_7cf53 cJ15_checkIndex_7cf53 2 (some .int)]
def wsX11_orderedClause_r2 : List Cond := [Cond.methodLink RJ15 105 yJ3_checkIndex_8e157, Cond.static yJ3_checkIndex_8e157, Cond.initialized RJ3, Cond.code yJ3_checkIndex_8e157 cJ3_checkIndex_8e157 3 (some .int), Cond.methodLink RJx4a65c 123 yJx4a65c_elementData_915e3, Cond.instanceMethod yJx4a65c_elementData_915e3, Cond.selects RJx4a65c yJx4a65c_elementData_915e3 yJx4a65c_elementData_915e3, Cond.code yJx4a65c_elementData_915e3 cJx4a65c_elementData_915e3 2 (some (.object "java/lang/Object")), Cond.fieldLink RJx4a65c 9 "java/util/ArrayList" "elementData" "[Ljava/lang/Object;", Cond.methodLink RX11 354 yX6_modeAt, Cond.instanceMethod yX6_modeAt, Cond.selects RX6 yX6_modeAt yX6_modeAt, Cond.initialized RX6, Cond.code yX6_modeAt cX6_modeAt 2 (some (.object "ModedMill$Mode")), Cond.fieldLink RX6 35 "ModedMill$Predicate" "modes" "Ljava/util/ArrayList;", Cond.classLink RX6 65 "ModedMill$Mode", Cond.methodLink RX6 59 yJx4a65c_size_8abf5, Cond.methodLink RX6 62 yJx4a65c_get_915e3, Cond.methodLink RX11 199 yX11_refuseUncompiled, Cond.instanceMethod yX11_refuseUncompiled, Cond.selects RX11 yX11_refuseUncompiled yX11_refuseUncompiled, Cond.initialized RX11, Cond.code yX11_refuseUncompiled cX11_refuseUncompiled 1 none, Cond.classLink RX11 67 "java/lang/IllegalStateException"]
def wsX11_orderedClause_r3 : List Cond := [Cond.initialized "java/lang/IllegalStateException", Cond.fieldLink RX11 51 "ModedMill" "isCompiled" "Z"]
def wsX11_orderedClause : List Cond := .code yX11_orderedClause cX11_orderedClause 4 (some (.object "ModedMill$Clause")) :: ((wsX11_orderedClause_r1 ++ (wsX11_orderedClause_r2 ++ wsX11_orderedClause_r3)) ++ wsX110 ++ wsX10 ++ wsX70 ++ wsJx4a65c0 ++ wsX60 ++ (vx_at0 RX11 82 "java/lang/IndexOutOfBoundsException" ["java/lang/RuntimeException", "java/lang/Exception"]).filter goodWord ++ (vx_at0 RX11 69 "java/lang/IllegalStateException" ["java/lang/RuntimeException", "java/lang/Exception"]).filter goodWord)
def wsX11_goalAt_r1 : List Cond := [Cond.classLink RX11 117 "java/util/NoSuchElementException", Cond.initialized "java/util/NoSuchElementException", Cond.methodLink RX11 224 yX11_orderedClause, Cond.instanceMethod yX11_orderedClause, Cond.selects RX11 yX11_orderedClause yX11_orderedClause, Cond.initialized RX11, Cond.code yX11_orderedClause cX11_orderedClause 4 (some (.object "ModedMill$Clause")), Cond.classLink RX11 80 "java/lang/IndexOutOfBoundsException", Cond.initialized "java/lang/IndexOutOfBoundsException", Cond.fieldLink RX11 19 "ModedMill" "program" "LModedMill$Program;", Cond.methodLink RX11 161 yX7_clauseAt, Cond.instanceMethod yX7_clauseAt, Cond.selects RX7 yX7_clauseAt yX7_clauseAt, Cond.initialized RX7, Cond.code yX7_clauseAt cX7_clauseAt 2 (some (.object "ModedMill$Clause")), Cond.fieldLink RX7 21 "ModedMill$Program" "clauses" "Ljava/util/ArrayList;", Cond.classLink RX7 34 "ModedMill$Clause", Cond.methodLink RX7 24 yJx4a65c_size_8abf5, Cond.instanceMethod yJx4a65c_size_8abf5, Cond.selects RJx4a65c yJx4a65c_size_8abf5 yJx4a65c_size_8abf5, Cond.initialized RJx4a65c, Cond.code yJx4a65c_size_8abf5 cJx4a65c_size_8abf5 1 (some .int), Cond.fieldLink RJx4a65c 48 "java/util/ArrayList" "size" "I", Cond.methodLink RX7 28 yJx4a65c_get_915e3]
def wsX11_goalAt_r2 : List Cond := [Cond.instanceMethod yJx4a65c_get_915e3, Cond.selects RJx4a65c yJx4a65c_get_915e3 yJx4a65c_get_915e3, Cond.code yJx4a65c_get_915e3 cJx4a65c_get_915e3 2 (some (.object "java/lang/Object")), Cond.methodLink RJx4a65c 118 yJ15_checkIndex_7cf53, Cond.static yJ15_checkIndex_7cf53, Cond.initialized RJ15, Cond.code yJ15_checkIndex_7cf53 cJ15_checkIndex_7cf53 2 (some .int), Cond.methodLink RJ15 105 yJ3_checkIndex_8e157, Cond.static yJ3_checkIndex_8e157, Cond.initialized RJ3, Cond.code yJ3_checkIndex_8e157 cJ3_checkIndex_8e157 3 (some .int), Cond.methodLink RJx4a65c 123 yJx4a65c_elementData_915e3, Cond.instanceMethod yJx4a65c_elementData_915e3, Cond.selects RJx4a65c yJx4a65c_elementData_915e3 yJx4a65c_elementData_915e3, Cond.code yJx4a65c_elementData_915e3 cJx4a65c_elementData_915e3 2 (some (.object "java/lang/Object")), Cond.fieldLink RJx4a65c 9 "java/util/ArrayList" "elementData" "[Ljava/lang/Object;", Cond.methodLink RX11 354 yX6_modeAt, Cond.instanceMethod yX6_modeAt, Cond.selects RX6 yX6_modeAt yX6_modeAt, Cond.initialized RX6, Cond.code yX6_modeAt cX6_modeAt 2 (some (.object "ModedMill$Mode")), Cond.fieldLink RX6 35 "ModedMill$Predicate" "modes" "Ljava/util/ArrayList;", Cond.classLink RX6 65 "ModedMill$Mode", Cond.methodLink RX6 59 yJx4a65c_size_8abf5]
def wsX11_goalAt_r3 : List Cond := [Cond.methodLink RX6 62 yJx4a65c_get_915e3, Cond.methodLink RX11 199 yX11_refuseUncompiled, Cond.instanceMethod yX11_refuseUncompiled, Cond.selects RX11 yX11_refuseUncompiled yX11_refuseUncompiled, Cond.code yX11_refuseUncompiled cX11_refuseUncompiled 1 none, Cond.classLink RX11 67 "java/lang/IllegalStateException", Cond.initialized "java/lang/IllegalStateException", Cond.fieldLink RX11 51 "ModedMill" "isCompiled" "Z", Cond.methodLink RX11 228 yX1_goalNumberIn, Cond.instanceMethod yX1_goalNumberIn, Cond.selects RX1 yX1_goalNumberIn yX1_goalNumberIn, Cond.initialized RX1, Cond.code yX1_goalNumberIn cX1_goalNumberIn 4 (some .int), Cond.fieldLink RX1 49 "ModedMill$Clause" "numbers" "[I", Cond.methodLink RX1 99 yX1_slot, Cond.instanceMethod yX1_slot, Cond.selects RX1 yX1_slot yX1_slot, Cond.code yX1_slot cX1_slot 4 (some .int), Cond.fieldLink RX1 45 "ModedMill$Clause" "lengths" "[I"]
def wsX11_goalAt : List Cond := .code yX11_goalAt cX11_goalAt 6 (some .int) :: ((wsX11_goalAt_r1 ++ (wsX11_goalAt_r2 ++ wsX11_goalAt_r3)) ++ wsX110 ++ wsX10 ++ wsX70 ++ wsJx4a65c0 ++ wsX60 ++ (vx_at0 RX11 119 "java/util/NoSuchElementException" ["java/lang/RuntimeException", "java/lang/Exception"]).filter goodWord ++ (vx_at0 RX11 82 "java/lang/IndexOutOfBoundsException" ["java/lang/RuntimeException", "java/lang/Exception"]).filter goodWord ++ (vx_at0 RX11 69 "java/lang/IllegalStateException" ["java/lang/RuntimeException", "java/lang/Exception"]).filter goodWord ++ (vx_atM "java/lang/ArrayIndexOutOfBoundsException" ["java/lang/IndexOutOfBoundsException", "java/lang/RuntimeException", "java/lang/Exception"]).filter goodWord)
def wsX11_chosenAt_r1 : List Cond := [Cond.classLink RX11 117 "java/util/NoSuchElementException", Cond.initialized "java/util/NoSuchElementException", Cond.methodLink RX11 224 yX11_orderedClause, Cond.instanceMethod yX11_orderedClause, Cond.selects RX11 yX11_orderedClause yX11_orderedClause, Cond.initialized RX11, Cond.code yX11_orderedClause cX11_orderedClause 4 (some (.object "ModedMill$Clause")), Cond.classLink RX11 80 "java/lang/IndexOutOfBoundsException", Cond.initialized "java/lang/IndexOutOfBoundsException", Cond.fieldLink RX11 19 "ModedMill" "program" "LModedMill$Program;", Cond.methodLink RX11 161 yX7_clauseAt, Cond.instanceMethod yX7_clauseAt, Cond.selects RX7 yX7_clauseAt yX7_clauseAt, Cond.initialized RX7, Cond.code yX7_clauseAt cX7_clauseAt 2 (some (.object "ModedMill$Clause")), Cond.fieldLink RX7 21 "ModedMill$Program" "clauses" "Ljava/util/ArrayList;", Cond.classLink RX7 34 "ModedMill$Clause", Cond.methodLink RX7 24 yJx4a65c_size_8abf5, Cond.instanceMethod yJx4a65c_size_8abf5, Cond.selects RJx4a65c yJx4a65c_size_8abf5 yJx4a65c_size_8abf5, Cond.initialized RJx4a65c, Cond.code yJx4a65c_size_8abf5 cJx4a65c_size_8abf5 1 (some .int), Cond.fieldLink RJx4a65c 48 "java/util/ArrayList" "size" "I", Cond.methodLink RX7 28 yJx4a65c_get_915e3]
def wsX11_chosenAt_r2 : List Cond := [Cond.instanceMethod yJx4a65c_get_915e3, Cond.selects RJx4a65c yJx4a65c_get_915e3 yJx4a65c_get_915e3, Cond.code yJx4a65c_get_915e3 cJx4a65c_get_915e3 2 (some (.object "java/lang/Object")), Cond.methodLink RJx4a65c 118 yJ15_checkIndex_7cf53, Cond.static yJ15_checkIndex_7cf53, Cond.initialized RJ15, Cond.code yJ15_checkIndex_7cf53 cJ15_checkIndex_7cf53 2 (some .int), Cond.methodLink RJ15 105 yJ3_checkIndex_8e157, Cond.static yJ3_checkIndex_8e157, Cond.initialized RJ3, Cond.code yJ3_checkIndex_8e157 cJ3_checkIndex_8e157 3 (some .int), Cond.methodLink RJx4a65c 123 yJx4a65c_elementData_915e3, Cond.instanceMethod yJx4a65c_elementData_915e3, Cond.selects RJx4a65c yJx4a65c_elementData_915e3 yJx4a65c_elementData_915e3, Cond.code yJx4a65c_elementData_915e3 cJx4a65c_elementData_915e3 2 (some (.object "java/lang/Object")), Cond.fieldLink RJx4a65c 9 "java/util/ArrayList" "elementData" "[Ljava/lang/Object;", Cond.methodLink RX11 354 yX6_modeAt, Cond.instanceMethod yX6_modeAt, Cond.selects RX6 yX6_modeAt yX6_modeAt, Cond.initialized RX6, Cond.code yX6_modeAt cX6_modeAt 2 (some (.object "ModedMill$Mode")), Cond.fieldLink RX6 35 "ModedMill$Predicate" "modes" "Ljava/util/ArrayList;", Cond.classLink RX6 65 "ModedMill$Mode", Cond.methodLink RX6 59 yJx4a65c_size_8abf5]
def wsX11_chosenAt_r3 : List Cond := [Cond.methodLink RX6 62 yJx4a65c_get_915e3, Cond.methodLink RX11 199 yX11_refuseUncompiled, Cond.instanceMethod yX11_refuseUncompiled, Cond.selects RX11 yX11_refuseUncompiled yX11_refuseUncompiled, Cond.code yX11_refuseUncompiled cX11_refuseUncompiled 1 none, Cond.classLink RX11 67 "java/lang/IllegalStateException", Cond.initialized "java/lang/IllegalStateException", Cond.fieldLink RX11 51 "ModedMill" "isCompiled" "Z", Cond.methodLink RX11 231 yX1_chosenIn, Cond.instanceMethod yX1_chosenIn, Cond.selects RX1 yX1_chosenIn yX1_chosenIn, Cond.initialized RX1, Cond.code yX1_chosenIn cX1_chosenIn 4 (some (.object "ModedMill$Mode")), Cond.fieldLink RX1 60 "ModedMill$Clause" "chosen" "[LModedMill$Mode;", Cond.methodLink RX1 99 yX1_slot, Cond.instanceMethod yX1_slot, Cond.selects RX1 yX1_slot yX1_slot, Cond.code yX1_slot cX1_slot 4 (some .int), Cond.fieldLink RX1 45 "ModedMill$Clause" "lengths" "[I"]
def wsX11_chosenAt : List Cond := .code yX11_chosenAt cX11_chosenAt 6 (some .int) :: ((wsX11_chosenAt_r1 ++ (wsX11_chosenAt_r2 ++ wsX11_chosenAt_r3)) ++ wsX50 ++ wsX110 ++ wsX10 ++ wsX70 ++ wsJx4a65c0 ++ wsX60 ++ (vx_at0 RX11 119 "java/util/NoSuchElementException" ["java/lang/RuntimeException", "java/lang/Exception"]).filter goodWord ++ (vx_at0 RX11 82 "java/lang/IndexOutOfBoundsException" ["java/lang/RuntimeException", "java/lang/Exception"]).filter goodWord ++ (vx_at0 RX11 69 "java/lang/IllegalStateException" ["java/lang/RuntimeException", "java/lang/Exception"]).filter goodWord ++ (vx_atM "java/lang/ArrayIndexOutOfBoundsException" ["java/lang/IndexOutOfBoundsException", "java/lang/RuntimeException", "java/lang/Exception"]).filter goodWord)
def wsX11_areInputsThere : List Cond := .code yX11_areInputsThere cX11_areInputsThere 6 (some .boolean) :: ([.fieldLink RX11 10 "ModedMill" "store" "LModedMill$Terms;", .methodLink RX11 339 yX5_isInput, .instanceMethod yX5_isInput, .selects RX5 yX5_isInput yX5_isInput, .initialized RX5, .code yX5_isInput cX5_isInput 2 (some .boolean), .fieldLink RX5 19 "ModedMill$Mode" "inputs" "I", .methodLink RX11 342 yX11_pick, .static yX11_pick, .initialized RX11, .code yX11_pick cX11_pick 4 (some .int), .methodLink RX11 346 yX10_hasTerm, .instanceMethod yX10_hasTerm, .selects RX10 yX10_hasTerm yX10_hasTerm, .initialized RX10, .code yX10_hasTerm cX10_hasTerm 2 (some .boolean), .fieldLink RX10 24 "ModedMill$Terms" "numbered" "LModedMill$Table;", .methodLink RX10 38 yX9_count, .instanceMethod yX9_count, .selects RX9 yX9_count yX9_count, .initialized RX9, .code yX9_count cX9_count 1 (some .int), .fieldLink RX9 20 "ModedMill$Table" "lines" "I"] ++ wsX110 ++ wsX50 ++ wsX100 ++ wsX90)
def wsX11_doInputsFit_r1 : List Cond := [Cond.fieldLink RX11 10 "ModedMill" "store" "LModedMill$Terms;", Cond.methodLink RX11 342 yX11_pick, Cond.static yX11_pick, Cond.initialized RX11, Cond.code yX11_pick cX11_pick 4 (some .int), Cond.methodLink RX11 339 yX5_isInput, Cond.instanceMethod yX5_isInput, Cond.selects RX5 yX5_isInput yX5_isInput, Cond.initialized RX5, Cond.code yX5_isInput cX5_isInput 2 (some .boolean), Cond.fieldLink RX5 19 "ModedMill$Mode" "inputs" "I", Cond.methodLink RX11 110 yX10_headOf, Cond.instanceMethod yX10_headOf, Cond.selects RX10 yX10_headOf yX10_headOf, Cond.initialized RX10, Cond.code yX10_headOf cX10_headOf 2 (some .int), Cond.fieldLink RX10 24 "ModedMill$Terms" "numbered" "LModedMill$Table;", Cond.methodLink RX10 42 yX9_get, Cond.instanceMethod yX9_get, Cond.selects RX9 yX9_get yX9_get, Cond.initialized RX9, Cond.code yX9_get cX9_get 5 (some .int), Cond.fieldLink RX9 9 "ModedMill$Table" "columns" "I", Cond.fieldLink RX9 20 "ModedMill$Table" "lines" "I"]
def wsX11_doInputsFit_r2 : List Cond := [Cond.fieldLink RX9 16 "ModedMill$Table" "cells" "[I", Cond.methodLink RX11 173 yX10_typeOfHead, Cond.instanceMethod yX10_typeOfHead, Cond.selects RX10 yX10_typeOfHead yX10_typeOfHead, Cond.code yX10_typeOfHead cX10_typeOfHead 2 (some .int), Cond.fieldLink RX10 20 "ModedMill$Terms" "constructors" "LModedMill$Table;", Cond.methodLink RX11 191 yX6_typeAt, Cond.instanceMethod yX6_typeAt, Cond.selects RX6 yX6_typeAt yX6_typeAt, Cond.initialized RX6, Cond.code yX6_typeAt cX6_typeAt 2 (some .int), Cond.fieldLink RX6 20 "ModedMill$Predicate" "types" "LModedMill$Table;", Cond.methodLink RX6 55 yX9_get]
def wsX11_doInputsFit : List Cond := .code yX11_doInputsFit cX11_doInputsFit 8 (some .boolean) :: ((wsX11_doInputsFit_r1 ++ wsX11_doInputsFit_r2) ++ wsX110 ++ wsX50 ++ wsX100 ++ wsX90 ++ wsX60 ++ (vx_atM "java/lang/ArrayIndexOutOfBoundsException" ["java/lang/IndexOutOfBoundsException", "java/lang/RuntimeException", "java/lang/Exception"]).filter goodWord)
def wsX11_ask_r1 : List Cond := [Cond.classLink RX11 80 "java/lang/IndexOutOfBoundsException", Cond.initialized "java/lang/IndexOutOfBoundsException", Cond.classLink RX11 83 "java/lang/IllegalArgumentException", Cond.initialized "java/lang/IllegalArgumentException", Cond.classLink RX11 255 "java/lang/UnsupportedOperationException", Cond.initialized "java/lang/UnsupportedOperationException", Cond.fieldLink RX11 19 "ModedMill" "program" "LModedMill$Program;", Cond.fieldLink RX11 30 "ModedMill" "spare" "LModedMill$Report;", Cond.fieldLink RX11 38 "ModedMill" "machine" "LModedMill$Machine;", Cond.fieldLink RX11 26 "ModedMill" "last" "LModedMill$Report;", Cond.fieldLink RX11 55 "ModedMill" "asked" "I", Cond.fieldLink RX11 59 "ModedMill" "stepSum" "J", Cond.methodLink RX11 237 yX7_modeAt, Cond.instanceMethod yX7_modeAt, Cond.selects RX7 yX7_modeAt yX7_modeAt, Cond.initialized RX7, Cond.code yX7_modeAt cX7_modeAt 4 (some (.object "ModedMill$Mode")), Cond.methodLink RX7 36 yX7_predicateAt, Cond.instanceMethod yX7_predicateAt, Cond.selects RX7 yX7_predicateAt yX7_predicateAt, Cond.code yX7_predicateAt cX7_predicateAt 2 (some (.object "ModedMill$Predicate")), Cond.fieldLink RX7 12 "ModedMill$Program" "predicates" "Ljava/util/ArrayList;", Cond.classLink RX7 32 "ModedMill$Predicate", Cond.methodLink RX7 24 yJx4a65c_size_8abf5]
def wsX11_ask_r2 : List Cond := [Cond.instanceMethod yJx4a65c_size_8abf5, Cond.selects RJx4a65c yJx4a65c_size_8abf5 yJx4a65c_size_8abf5, Cond.initialized RJx4a65c, Cond.code yJx4a65c_size_8abf5 cJx4a65c_size_8abf5 1 (some .int), Cond.fieldLink RJx4a65c 48 "java/util/ArrayList" "size" "I", Cond.methodLink RX7 28 yJx4a65c_get_915e3, Cond.instanceMethod yJx4a65c_get_915e3, Cond.selects RJx4a65c yJx4a65c_get_915e3 yJx4a65c_get_915e3, Cond.code yJx4a65c_get_915e3 cJx4a65c_get_915e3 2 (some (.object "java/lang/Object")), Cond.methodLink RJx4a65c 118 yJ15_checkIndex_7cf53, Cond.static yJ15_checkIndex_7cf53, Cond.initialized RJ15, Cond.code yJ15_checkIndex_7cf53 cJ15_checkIndex_7cf53 2 (some .int), Cond.methodLink RJ15 105 yJ3_checkIndex_8e157, Cond.static yJ3_checkIndex_8e157, Cond.initialized RJ3, Cond.code yJ3_checkIndex_8e157 cJ3_checkIndex_8e157 3 (some .int), Cond.methodLink RJx4a65c 123 yJx4a65c_elementData_915e3, Cond.instanceMethod yJx4a65c_elementData_915e3, Cond.selects RJx4a65c yJx4a65c_elementData_915e3 yJx4a65c_elementData_915e3, Cond.code yJx4a65c_elementData_915e3 cJx4a65c_elementData_915e3 2 (some (.object "java/lang/Object")), Cond.fieldLink RJx4a65c 9 "java/util/ArrayList" "elementData" "[Ljava/lang/Object;", Cond.methodLink RX7 40 yX6_modeAt, Cond.instanceMethod yX6_modeAt]
def wsX11_ask_r3 : List Cond := [Cond.selects RX6 yX6_modeAt yX6_modeAt, Cond.initialized RX6, Cond.code yX6_modeAt cX6_modeAt 2 (some (.object "ModedMill$Mode")), Cond.fieldLink RX6 35 "ModedMill$Predicate" "modes" "Ljava/util/ArrayList;", Cond.classLink RX6 65 "ModedMill$Mode", Cond.methodLink RX6 59 yJx4a65c_size_8abf5, Cond.methodLink RX6 62 yJx4a65c_get_915e3, Cond.methodLink RX11 240 yX11_areInputsThere, Cond.instanceMethod yX11_areInputsThere, Cond.selects RX11 yX11_areInputsThere yX11_areInputsThere, Cond.initialized RX11, Cond.code yX11_areInputsThere cX11_areInputsThere 6 (some .boolean), Cond.fieldLink RX11 10 "ModedMill" "store" "LModedMill$Terms;", Cond.methodLink RX11 339 yX5_isInput, Cond.instanceMethod yX5_isInput, Cond.selects RX5 yX5_isInput yX5_isInput, Cond.initialized RX5, Cond.code yX5_isInput cX5_isInput 2 (some .boolean), Cond.fieldLink RX5 19 "ModedMill$Mode" "inputs" "I", Cond.methodLink RX11 342 yX11_pick, Cond.static yX11_pick, Cond.code yX11_pick cX11_pick 4 (some .int), Cond.methodLink RX11 346 yX10_hasTerm, Cond.instanceMethod yX10_hasTerm]
def wsX11_ask_r4 : List Cond := [Cond.selects RX10 yX10_hasTerm yX10_hasTerm, Cond.initialized RX10, Cond.code yX10_hasTerm cX10_hasTerm 2 (some .boolean), Cond.fieldLink RX10 24 "ModedMill$Terms" "numbered" "LModedMill$Table;", Cond.methodLink RX10 38 yX9_count, Cond.instanceMethod yX9_count, Cond.selects RX9 yX9_count yX9_count, Cond.initialized RX9, Cond.code yX9_count cX9_count 1 (some .int), Cond.fieldLink RX9 20 "ModedMill$Table" "lines" "I", Cond.methodLink RX11 244 yX11_doInputsFit, Cond.instanceMethod yX11_doInputsFit, Cond.selects RX11 yX11_doInputsFit yX11_doInputsFit, Cond.code yX11_doInputsFit cX11_doInputsFit 8 (some .boolean), Cond.methodLink RX11 110 yX10_headOf, Cond.instanceMethod yX10_headOf, Cond.selects RX10 yX10_headOf yX10_headOf, Cond.code yX10_headOf cX10_headOf 2 (some .int), Cond.methodLink RX10 42 yX9_get, Cond.instanceMethod yX9_get, Cond.selects RX9 yX9_get yX9_get, Cond.code yX9_get cX9_get 5 (some .int), Cond.fieldLink RX9 9 "ModedMill$Table" "columns" "I", Cond.fieldLink RX9 16 "ModedMill$Table" "cells" "[I"]
def wsX11_ask_r5 : List Cond := [Cond.methodLink RX11 173 yX10_typeOfHead, Cond.instanceMethod yX10_typeOfHead, Cond.selects RX10 yX10_typeOfHead yX10_typeOfHead, Cond.code yX10_typeOfHead cX10_typeOfHead 2 (some .int), Cond.fieldLink RX10 20 "ModedMill$Terms" "constructors" "LModedMill$Table;", Cond.methodLink RX11 191 yX6_typeAt, Cond.instanceMethod yX6_typeAt, Cond.selects RX6 yX6_typeAt yX6_typeAt, Cond.code yX6_typeAt cX6_typeAt 2 (some .int), Cond.fieldLink RX6 20 "ModedMill$Predicate" "types" "LModedMill$Table;", Cond.methodLink RX6 55 yX9_get, Cond.methodLink RX11 199 yX11_refuseUncompiled, Cond.instanceMethod yX11_refuseUncompiled, Cond.selects RX11 yX11_refuseUncompiled yX11_refuseUncompiled, Cond.code yX11_refuseUncompiled cX11_refuseUncompiled 1 none, Cond.classLink RX11 67 "java/lang/IllegalStateException", Cond.initialized "java/lang/IllegalStateException", Cond.fieldLink RX11 51 "ModedMill" "isCompiled" "Z", Cond.methodLink RX11 247 yX8_begin, Cond.instanceMethod yX8_begin, Cond.selects RX8 yX8_begin yX8_begin, Cond.initialized RX8, Cond.code yX8_begin cX8_begin 7 none, Cond.fieldLink RX8 9 "ModedMill$Report" "mode" "LModedMill$Mode;"]
def wsX11_ask_r6 : List Cond := [Cond.fieldLink RX8 20 "ModedMill$Report" "inputs" "LModedMill$Table;", Cond.fieldLink RX8 24 "ModedMill$Report" "answers" "LModedMill$Table;", Cond.fieldLink RX8 27 "ModedMill$Report" "notes" "LModedMill$Table;", Cond.fieldLink RX8 52 "ModedMill$Report" "stepCount" "I", Cond.fieldLink RX8 56 "ModedMill$Report" "choiceCount" "I", Cond.fieldLink RX8 59 "ModedMill$Report" "deepestCall" "I", Cond.fieldLink RX8 30 "ModedMill$Report" "end" "C", Cond.fieldLink RX8 62 "ModedMill$Report" "isBreadthKnown" "Z", Cond.fieldLink RX8 66 "ModedMill$Report" "breadthCount" "I", Cond.methodLink RX8 34 yX9_cut, Cond.instanceMethod yX9_cut, Cond.selects RX9 yX9_cut yX9_cut, Cond.code yX9_cut cX9_cut 2 none, Cond.methodLink RX8 42 yX5_isInput, Cond.methodLink RX8 48 yX9_add, Cond.instanceMethod yX9_add, Cond.selects RX9 yX9_add yX9_add, Cond.code yX9_add cX9_add 6 (some .int), Cond.constant RX9 15 (1000000), Cond.methodLink RX9 23 yJ7_copyOf_59c91, Cond.static yJ7_copyOf_59c91, Cond.initialized RJ7, Cond.code yJ7_copyOf_59c91 cJ7_copyOf_59c91 3 (some (.array .int)), Cond.methodLink RJ7 316 ⟨"[I", "clone", "()Ljava/lang/Object;"⟩]
def wsX11_ask_r7 : List Cond := [Cond.sameMethod "[I" "java/lang/Object" "clone" "()Ljava/lang/Object;", Cond.native ⟨"java/lang/Object", "clone", "()Ljava/lang/Object;"⟩, Cond.instanceMethod ⟨"java/lang/Object", "clone", "()Ljava/lang/Object;"⟩, Cond.selects "[I" ⟨"[I", "clone", "()Ljava/lang/Object;"⟩ ⟨"java/lang/Object", "clone", "()Ljava/lang/Object;"⟩, Cond.classLink RJ7 317 "[I", Cond.arrayClass .int, Cond.methodLink RJ7 304 Lib.Math.min.name, Cond.static Lib.Math.min.name, Cond.initialized "java/lang/Math", Cond.code Lib.Math.min.name Lib.Math.min.code 2 (some .int), Cond.methodLink RJ7 150 arraycopyName, Cond.native arraycopyName, Cond.static arraycopyName, Cond.initialized "java/lang/System", Cond.methodLink RX9 29 yJ7_fill_fda19, Cond.static yJ7_fill_fda19, Cond.code yJ7_fill_fda19 cJ7_fill_fda19 5 none, Cond.methodLink RJ7 13 yJ7_rangeCheck_23922, Cond.static yJ7_rangeCheck_23922, Cond.code yJ7_rangeCheck_23922 cJ7_rangeCheck_23922 3 none, Cond.classLink RJ7 45 RJ4, Cond.instantiable RJ4 4, Cond.initialized RJ4, Cond.classLink RJ7 68 RJx00060]
def wsX11_ask_r8 : List Cond := [Cond.instantiable RJx00060 6, Cond.initialized RJx00060, Cond.methodLink RX9 33 yX9_set, Cond.instanceMethod yX9_set, Cond.selects RX9 yX9_set yX9_set, Cond.code yX9_set cX9_set 6 none, Cond.methodLink RX11 251 yX4_run, Cond.instanceMethod yX4_run, Cond.selects RX4 yX4_run yX4_run, Cond.initialized RX4, Cond.code yX4_run cX4_run 6 (some .boolean), Cond.fieldLink RX4 9 "ModedMill$Machine" "store" "LModedMill$Terms;", Cond.constant RX4 48 (1000000), Cond.fieldLink RX4 49 "ModedMill$Machine" "isOver" "Z", Cond.fieldLink RX4 53 "ModedMill$Machine" "current" "LModedMill$Frame;", Cond.fieldLink RX4 57 "ModedMill$Machine" "isFailing" "Z", Cond.fieldLink RX4 69 "ModedMill$Machine" "place" "I", Cond.fieldLink RX4 100 "ModedMill$Machine" "isFull" "Z", Cond.methodLink RX4 38 yX10_termCount, Cond.instanceMethod yX10_termCount, Cond.selects RX10 yX10_termCount yX10_termCount, Cond.code yX10_termCount cX10_termCount 1 (some .int), Cond.methodLink RX4 44 yX4_begin, Cond.instanceMethod yX4_begin]
def wsX11_ask_r9 : List Cond := [Cond.selects RX4 yX4_begin yX4_begin, Cond.code yX4_begin cX4_begin 5 none, Cond.fieldLink RX4 15 "ModedMill$Machine" "report" "LModedMill$Report;", Cond.fieldLink RX4 31 "ModedMill$Machine" "choices" "LModedMill$Table;", Cond.fieldLink RX4 35 "ModedMill$Machine" "trail" "LModedMill$Table;", Cond.fieldLink RX4 110 "ModedMill$Machine" "used" "I", Cond.fieldLink RX4 113 "ModedMill$Machine" "denied" "LModedMill$Frame;", Cond.methodLink RX4 107 yX9_cut, Cond.methodLink RX4 116 yX4_newFrame, Cond.instanceMethod yX4_newFrame, Cond.selects RX4 yX4_newFrame yX4_newFrame, Cond.code yX4_newFrame cX4_newFrame 4 (some (.object "ModedMill$Frame")), Cond.fieldLink RX4 22 "ModedMill$Machine" "frames" "Ljava/util/ArrayList;", Cond.classLink RX4 61 RX2, Cond.instantiable RX2 10, Cond.initialized RX2, Cond.classLink RX4 61 "ModedMill$Frame", Cond.methodLink RX4 131 yJx4a65c_size_8abf5, Cond.methodLink RX4 134 yX2_init, Cond.instanceMethod yX2_init, Cond.code yX2_init cX2_init 3 none, Cond.methodLink RX2 3 objectInit, Cond.instanceMethod objectInit, Cond.code objectInit ⟨#[0xb1]⟩ 1 none]
def wsX11_ask_r10 : List Cond := [Cond.fieldLink RX2 9 "ModedMill$Frame" "number" "I", Cond.fieldLink RX2 15 "ModedMill$Frame" "mode" "LModedMill$Mode;", Cond.fieldLink RX2 19 "ModedMill$Frame" "values" "[I", Cond.methodLink RX4 137 yJx4a65c_add_9ea2d, Cond.instanceMethod yJx4a65c_add_9ea2d, Cond.selects RJx4a65c yJx4a65c_add_9ea2d yJx4a65c_add_9ea2d, Cond.code yJx4a65c_add_9ea2d cJx4a65c_add_9ea2d 2 (some .boolean), Cond.fieldLink RJx4a65c 63 "java/util/ArrayList" "modCount" "I", Cond.sameField "java/util/ArrayList" "java/util/AbstractList" "modCount" "I", Cond.methodLink RJx4a65c 131 yJx4a65c_add_72be8, Cond.instanceMethod yJx4a65c_add_72be8, Cond.selects RJx4a65c yJx4a65c_add_72be8 yJx4a65c_add_72be8, Cond.code yJx4a65c_add_72be8 cJx4a65c_add_72be8 4 none, Cond.methodLink RJx4a65c 129 yJx4a65c_grow_d5877, Cond.instanceMethod yJx4a65c_grow_d5877, Cond.selects RJx4a65c yJx4a65c_grow_d5877 yJx4a65c_grow_d5877, Cond.code yJx4a65c_grow_d5877 cJx4a65c_grow_d5877 1 (some (.array (.object "java/lang/Object"))), Cond.methodLink RJx4a65c 69 yJx4a65c_grow_92f84, Cond.instanceMethod yJx4a65c_grow_92f84, Cond.selects RJx4a65c yJx4a65c_grow_92f84 yJx4a65c_grow_92f84, Cond.code yJx4a65c_grow_92f84 cJx4a65c_grow_92f84 4 (some (.array (.object "java/lang/Object"))), Cond.fieldLink RJx4a65c 39 "java/util/ArrayList" "DEFAULTCAPACITY_EMPTY_ELEMENTDATA" "[Ljava/lang/Object;", Cond.methodLink RJx4a65c 79 Lib.Math.max.name, Cond.static Lib.Math.max.name]
def wsX11_ask_r11 : List Cond := [Cond.code Lib.Math.max.name Lib.Math.max.code 2 (some .int), Cond.classLink RJx4a65c 7 "java/lang/Object", Cond.methodLink RJx4a65c 73 yJ8_newLength_cabcc, Cond.static yJ8_newLength_cabcc, Cond.initialized RJ8, Cond.code yJ8_newLength_cabcc cJ8_newLength_cabcc 4 (some .int), Cond.methodLink RJ8 194 Lib.Math.max.name, Cond.constant RJ8 200 (2147483639), Cond.methodLink RJ8 201 yJ8_hugeLength_7cf53, Cond.static yJ8_hugeLength_7cf53, Cond.code yJ8_hugeLength_7cf53 cJ8_hugeLength_7cf53 3 (some .int), Cond.methodLink RJx4a65c 66 yJ7_copyOf_1904c, Cond.static yJ7_copyOf_1904c, Cond.code yJ7_copyOf_1904c cJ7_copyOf_1904c 2 (some (.array (.object "java/lang/Object"))), Cond.methodLink RJ7 86 ⟨"java/lang/Object", "getClass", "()Ljava/lang/Class;"⟩, Cond.selects "[Ljava/lang/Object;" ⟨"java/lang/Object", "getClass", "()Ljava/lang/Class;"⟩ ⟨"java/lang/Object", "getClass", "()Ljava/lang/Class;"⟩, Cond.instanceMethod ⟨"java/lang/Object", "getClass", "()Ljava/lang/Class;"⟩, Cond.native ⟨"java/lang/Object", "getClass", "()Ljava/lang/Class;"⟩, Cond.methodLink RJ7 300 yJ7_copyOf_6403c, Cond.static yJ7_copyOf_6403c, Cond.code yJ7_copyOf_6403c cJ7_copyOf_6403c 4 (some (.array (.object "java/lang/Object"))), Cond.classLink RJ7 110 "[Ljava/lang/Object;", Cond.classLink RJ7 2 "java/lang/Object", Cond.methodLink RX4 141 yJx4a65c_get_915e3]
def wsX11_ask_r12 : List Cond := [Cond.methodLink RX4 145 yX2_begin, Cond.instanceMethod yX2_begin, Cond.selects RX2 yX2_begin yX2_begin, Cond.code yX2_begin cX2_begin 4 none, Cond.fieldLink RX2 29 "ModedMill$Frame" "caller" "LModedMill$Frame;", Cond.fieldLink RX2 33 "ModedMill$Frame" "backTo" "I", Cond.fieldLink RX2 36 "ModedMill$Frame" "depth" "I", Cond.fieldLink RX2 39 "ModedMill$Frame" "clause" "LModedMill$Clause;", Cond.fieldLink RX2 43 "ModedMill$Frame" "isDenied" "Z", Cond.fieldLink RX2 47 "ModedMill$Frame" "outerDenied" "LModedMill$Frame;", Cond.fieldLink RX2 50 "ModedMill$Frame" "choicesBefore" "I", Cond.methodLink RX2 23 yJ7_fill_53178, Cond.static yJ7_fill_53178, Cond.code yJ7_fill_53178 cJ7_fill_53178 4 none, Cond.methodLink RX4 120 yX8_inputAt, Cond.instanceMethod yX8_inputAt, Cond.selects RX8 yX8_inputAt yX8_inputAt, Cond.code yX8_inputAt cX8_inputAt 2 (some .int), Cond.methodLink RX8 69 yX9_get, Cond.methodLink RX4 125 yX2_setValue, Cond.instanceMethod yX2_setValue, Cond.selects RX2 yX2_setValue yX2_setValue, Cond.code yX2_setValue cX2_setValue 3 none, Cond.methodLink RX4 128 yX4_enter]
def wsX11_ask_r13 : List Cond := [Cond.instanceMethod yX4_enter, Cond.selects RX4 yX4_enter yX4_enter, Cond.code yX4_enter cX4_enter 4 none, Cond.methodLink RX4 169 Lib.Math.max.name, Cond.methodLink RX4 162 yX8_note, Cond.instanceMethod yX8_note, Cond.selects RX8 yX8_note yX8_note, Cond.code yX8_note cX8_note 4 none, Cond.methodLink RX8 73 yX9_count, Cond.methodLink RX4 175 yX4_firstClause, Cond.instanceMethod yX4_firstClause, Cond.selects RX4 yX4_firstClause yX4_firstClause, Cond.code yX4_firstClause cX4_firstClause 7 (some (.object "ModedMill$Clause")), Cond.methodLink RX4 199 yX6_clauseAt, Cond.instanceMethod yX6_clauseAt, Cond.selects RX6 yX6_clauseAt yX6_clauseAt, Cond.code yX6_clauseAt cX6_clauseAt 2 (some (.object "ModedMill$Clause")), Cond.fieldLink RX6 39 "ModedMill$Predicate" "clauses" "Ljava/util/ArrayList;", Cond.classLink RX6 67 "ModedMill$Clause", Cond.methodLink RX4 203 yX2_valueOf, Cond.instanceMethod yX2_valueOf, Cond.selects RX2 yX2_valueOf yX2_valueOf, Cond.code yX2_valueOf cX2_valueOf 2 (some .int), Cond.methodLink RX4 206 yX10_headOf]
def wsX11_ask_r14 : List Cond := [Cond.methodLink RX4 182 yX6_clauseCount, Cond.instanceMethod yX6_clauseCount, Cond.selects RX6 yX6_clauseCount yX6_clauseCount, Cond.code yX6_clauseCount cX6_clauseCount 1 (some .int), Cond.methodLink RX4 92 yX1_goalIn, Cond.instanceMethod yX1_goalIn, Cond.selects RX1 yX1_goalIn yX1_goalIn, Cond.initialized RX1, Cond.code yX1_goalIn cX1_goalIn 4 (some (.object "ModedMill$Goal")), Cond.fieldLink RX1 54 "ModedMill$Clause" "ordered" "[LModedMill$Goal;", Cond.methodLink RX1 99 yX1_slot, Cond.instanceMethod yX1_slot, Cond.selects RX1 yX1_slot yX1_slot, Cond.code yX1_slot cX1_slot 4 (some .int), Cond.fieldLink RX1 45 "ModedMill$Clause" "lengths" "[I", Cond.methodLink RX4 186 yX9_count, Cond.methodLink RX4 189 yX9_add, Cond.methodLink RX4 195 yX4_tryClause, Cond.instanceMethod yX4_tryClause, Cond.selects RX4 yX4_tryClause yX4_tryClause, Cond.code yX4_tryClause cX4_tryClause 3 none, Cond.methodLink RX4 66 yX4_goBack, Cond.instanceMethod yX4_goBack, Cond.selects RX4 yX4_goBack yX4_goBack]
def wsX11_ask_r15 : List Cond := [Cond.code yX4_goBack cX4_goBack 6 none, Cond.methodLink RX4 226 yX9_get, Cond.methodLink RX4 228 yX4_frameAt, Cond.instanceMethod yX4_frameAt, Cond.selects RX4 yX4_frameAt yX4_frameAt, Cond.code yX4_frameAt cX4_frameAt 2 (some (.object "ModedMill$Frame")), Cond.methodLink RX4 232 yX4_finish, Cond.instanceMethod yX4_finish, Cond.selects RX4 yX4_finish yX4_finish, Cond.code yX4_finish cX4_finish 2 none, Cond.methodLink RX4 236 yX4_undo, Cond.instanceMethod yX4_undo, Cond.selects RX4 yX4_undo yX4_undo, Cond.code yX4_undo cX4_undo 4 none, Cond.methodLink RX4 239 yX9_set, Cond.methodLink RX4 82 yX1_placeCount, Cond.instanceMethod yX1_placeCount, Cond.selects RX1 yX1_placeCount yX1_placeCount, Cond.code yX1_placeCount cX1_placeCount 2 (some .int), Cond.methodLink RX4 88 yX4_leave, Cond.instanceMethod yX4_leave, Cond.selects RX4 yX4_leave yX4_leave, Cond.code yX4_leave cX4_leave 2 none, Cond.methodLink RX4 243 yX4_addAnswer]
def wsX11_ask_r16 : List Cond := [Cond.instanceMethod yX4_addAnswer, Cond.selects RX4 yX4_addAnswer yX4_addAnswer, Cond.code yX4_addAnswer cX4_addAnswer 6 none, Cond.methodLink RX4 253 yX8_answerCount, Cond.instanceMethod yX8_answerCount, Cond.selects RX8 yX8_answerCount yX8_answerCount, Cond.code yX8_answerCount cX8_answerCount 1 (some .int), Cond.methodLink RX4 256 yX6_arity, Cond.instanceMethod yX6_arity, Cond.selects RX6 yX6_arity yX6_arity, Cond.code yX6_arity cX6_arity 1 (some .int), Cond.methodLink RX6 51 yX9_count, Cond.methodLink RX4 259 yX8_addAnswer, Cond.instanceMethod yX8_addAnswer, Cond.selects RX8 yX8_addAnswer yX8_addAnswer, Cond.code yX8_addAnswer cX8_addAnswer 4 none, Cond.methodLink RX4 249 yX4_handsBack, Cond.instanceMethod yX4_handsBack, Cond.selects RX4 yX4_handsBack yX4_handsBack, Cond.code yX4_handsBack cX4_handsBack 7 (some .boolean), Cond.methodLink RX4 263 yX5_isInput, Cond.methodLink RX4 267 yX3_variableAt, Cond.instanceMethod yX3_variableAt, Cond.selects RX3 yX3_variableAt yX3_variableAt]
def wsX11_ask_r17 : List Cond := [Cond.initialized RX3, Cond.code yX3_variableAt cX3_variableAt 2 (some .int), Cond.fieldLink RX3 21 "ModedMill$Goal" "variables" "[I", Cond.methodLink RX4 270 yX4_agrees, Cond.instanceMethod yX4_agrees, Cond.selects RX4 yX4_agrees yX4_agrees, Cond.code yX4_agrees cX4_agrees 4 (some .boolean), Cond.methodLink RX4 96 yX4_beginGoal, Cond.instanceMethod yX4_beginGoal, Cond.selects RX4 yX4_beginGoal yX4_beginGoal, Cond.code yX4_beginGoal cX4_beginGoal 7 none, Cond.methodLink RX4 277 yX3_isCalling, Cond.instanceMethod yX3_isCalling, Cond.selects RX3 yX3_isCalling yX3_isCalling, Cond.code yX3_isCalling cX3_isCalling 1 (some .boolean), Cond.fieldLink RX3 9 "ModedMill$Goal" "kind" "I", Cond.methodLink RX4 281 yX4_beginCall, Cond.instanceMethod yX4_beginCall, Cond.selects RX4 yX4_beginCall yX4_beginCall, Cond.code yX4_beginCall cX4_beginCall 6 none, Cond.methodLink RX4 294 yX1_chosenIn, Cond.instanceMethod yX1_chosenIn, Cond.selects RX1 yX1_chosenIn yX1_chosenIn, Cond.code yX1_chosenIn cX1_chosenIn 4 (some (.object "ModedMill$Mode"))]
def wsX11_ask_r18 : List Cond := [Cond.fieldLink RX1 60 "ModedMill$Clause" "chosen" "[LModedMill$Mode;", Cond.methodLink RX4 287 yX4_build, Cond.instanceMethod yX4_build, Cond.selects RX4 yX4_build yX4_build, Cond.code yX4_build cX4_build 6 none, Cond.methodLink RX4 298 yX10_make, Cond.instanceMethod yX10_make, Cond.selects RX10 yX10_make yX10_make, Cond.code yX10_make cX10_make 8 (some .int), Cond.fieldLink RX10 27 "ModedMill$Terms" "chains" "LModedMill$Table;", Cond.fieldLink RX10 34 "ModedMill$Terms" "sizes" "[J", Cond.methodLink RX10 70 yX10_find, Cond.instanceMethod yX10_find, Cond.selects RX10 yX10_find yX10_find, Cond.code yX10_find cX10_find 7 (some .int), Cond.methodLink RX10 67 yX10_chainOf, Cond.static yX10_chainOf, Cond.code yX10_chainOf cX10_chainOf 3 (some .int), Cond.methodLink RX10 30 yX9_add, Cond.methodLink RX10 73 yX9_set, Cond.methodLink RX10 46 yX10_partCount, Cond.instanceMethod yX10_partCount, Cond.selects RX10 yX10_partCount yX10_partCount, Cond.code yX10_partCount cX10_partCount 2 (some .int)]
def wsX11_ask_r19 : List Cond := [Cond.methodLink RX10 77 yX10_size, Cond.instanceMethod yX10_size, Cond.selects RX10 yX10_size yX10_size, Cond.code yX10_size cX10_size 2 (some .long), Cond.methodLink RX4 290 yX4_comesApart, Cond.instanceMethod yX4_comesApart, Cond.selects RX4 yX4_comesApart yX4_comesApart, Cond.code yX4_comesApart cX4_comesApart 5 (some .boolean), Cond.methodLink RX4 301 yX10_part, Cond.instanceMethod yX10_part, Cond.selects RX10 yX10_part yX10_part, Cond.code yX10_part cX10_part 3 (some .int), Cond.methodLink RX4 103 yX10_forgetFrom, Cond.instanceMethod yX10_forgetFrom, Cond.selects RX10 yX10_forgetFrom yX10_forgetFrom, Cond.code yX10_forgetFrom cX10_forgetFrom 4 none, Cond.methodLink RX10 61 yX10_headOf, Cond.methodLink RX10 81 yX10_part, Cond.methodLink RX10 84 yX9_cut, Cond.methodLink RX11 261 yX8_answerCount]
def wsX11_ask : List Cond := .code yX11_ask cX11_ask 8 (some .int) :: ((wsX11_ask_r1 ++ (wsX11_ask_r2 ++ (wsX11_ask_r3 ++ (wsX11_ask_r4 ++ (wsX11_ask_r5 ++ (wsX11_ask_r6 ++ (wsX11_ask_r7 ++ (wsX11_ask_r8 ++ (wsX11_ask_r9 ++ (wsX11_ask_r10 ++ (wsX11_ask_r11 ++ (wsX11_ask_r12 ++ (wsX11_ask_r13 ++ (wsX11_ask_r14 ++ (wsX11_ask_r15 ++ (wsX11_ask_r16 ++ (wsX11_ask_r17 ++ (wsX11_ask_r18 ++ wsX11_ask_r19)))))))))))))))))) ++ wsX110 ++ wsX50 ++ wsX80 ++ wsX70 ++ wsJx4a65c0 ++ wsX60 ++ wsX100 ++ wsX90 ++ wsJ40 ++ wsJx000600 ++ wsX40 ++ wsX20 ++ wsX30 ++ wsX10 ++ (vx_at0 RX11 82 "java/lang/IndexOutOfBoundsException" ["java/lang/RuntimeException", "java/lang/Exception"]).filter goodWord ++ (vx_at0 RX11 85 "java/lang/IllegalArgumentException" ["java/lang/RuntimeException", "java/lang/Exception"]).filter goodWord ++ (vx_at0 RX11 257 "java/lang/UnsupportedOperationException" ["java/lang/RuntimeException", "java/lang/Exception"]).filter goodWord ++ (vx_atM "java/lang/ArrayIndexOutOfBoundsException" ["java/lang/IndexOutOfBoundsException", "java/lang/RuntimeException", "java/lang/Exception"]).filter goodWord ++ (vx_at0 RX11 69 "java/lang/IllegalStateException" ["java/lang/RuntimeException", "java/lang/Exception"]).filter goodWord)
def wsX11_refuseUnasked : List Cond := .code yX11_refuseUnasked cX11_refuseUnasked 1 none :: ([.classLink RX11 117 "java/util/NoSuchElementException", .initialized "java/util/NoSuchElementException", .fieldLink RX11 55 "ModedMill" "asked" "I"] ++ wsX110 ++ (vx_at0 RX11 119 "java/util/NoSuchElementException" ["java/lang/RuntimeException", "java/lang/Exception"]).filter goodWord)
def wsX11_ending : List Cond := .code yX11_ending cX11_ending 1 (some .char) :: ([.fieldLink RX11 26 "ModedMill" "last" "LModedMill$Report;", .methodLink RX11 264 yX11_refuseUnasked, .instanceMethod yX11_refuseUnasked, .selects RX11 yX11_refuseUnasked yX11_refuseUnasked, .initialized RX11, .code yX11_refuseUnasked cX11_refuseUnasked 1 none, .classLink RX11 117 "java/util/NoSuchElementException", .initialized "java/util/NoSuchElementException", .fieldLink RX11 55 "ModedMill" "asked" "I"] ++ wsX110 ++ wsX80 ++ (vx_at0 RX11 119 "java/util/NoSuchElementException" ["java/lang/RuntimeException", "java/lang/Exception"]).filter goodWord)
def wsX11_answerAt_r1 : List Cond := [Cond.classLink RX11 80 "java/lang/IndexOutOfBoundsException", Cond.initialized "java/lang/IndexOutOfBoundsException", Cond.fieldLink RX11 26 "ModedMill" "last" "LModedMill$Report;", Cond.methodLink RX11 264 yX11_refuseUnasked, Cond.instanceMethod yX11_refuseUnasked, Cond.selects RX11 yX11_refuseUnasked yX11_refuseUnasked, Cond.initialized RX11, Cond.code yX11_refuseUnasked cX11_refuseUnasked 1 none, Cond.classLink RX11 117 "java/util/NoSuchElementException", Cond.initialized "java/util/NoSuchElementException", Cond.fieldLink RX11 55 "ModedMill" "asked" "I", Cond.methodLink RX11 271 yX8_hasAnswer, Cond.instanceMethod yX8_hasAnswer, Cond.selects RX8 yX8_hasAnswer yX8_hasAnswer, Cond.initialized RX8, Cond.code yX8_hasAnswer cX8_hasAnswer 2 (some .boolean), Cond.fieldLink RX8 24 "ModedMill$Report" "answers" "LModedMill$Table;", Cond.methodLink RX8 73 yX9_count, Cond.instanceMethod yX9_count, Cond.selects RX9 yX9_count yX9_count, Cond.initialized RX9, Cond.code yX9_count cX9_count 1 (some .int), Cond.fieldLink RX9 20 "ModedMill$Table" "lines" "I", Cond.methodLink RX11 274 yX8_hasArgument]
def wsX11_answerAt_r2 : List Cond := [Cond.instanceMethod yX8_hasArgument, Cond.selects RX8 yX8_hasArgument yX8_hasArgument, Cond.code yX8_hasArgument cX8_hasArgument 2 (some .boolean), Cond.fieldLink RX8 9 "ModedMill$Report" "mode" "LModedMill$Mode;", Cond.methodLink RX8 81 yX6_arity, Cond.instanceMethod yX6_arity, Cond.selects RX6 yX6_arity yX6_arity, Cond.initialized RX6, Cond.code yX6_arity cX6_arity 1 (some .int), Cond.fieldLink RX6 20 "ModedMill$Predicate" "types" "LModedMill$Table;", Cond.methodLink RX6 51 yX9_count, Cond.methodLink RX11 277 yX8_answerPart, Cond.instanceMethod yX8_answerPart, Cond.selects RX8 yX8_answerPart yX8_answerPart, Cond.code yX8_answerPart cX8_answerPart 3 (some .int), Cond.methodLink RX8 69 yX9_get, Cond.instanceMethod yX9_get, Cond.selects RX9 yX9_get yX9_get, Cond.code yX9_get cX9_get 5 (some .int), Cond.fieldLink RX9 9 "ModedMill$Table" "columns" "I", Cond.fieldLink RX9 16 "ModedMill$Table" "cells" "[I"]
def wsX11_answerAt : List Cond := .code yX11_answerAt cX11_answerAt 3 (some .int) :: ((wsX11_answerAt_r1 ++ wsX11_answerAt_r2) ++ wsX110 ++ wsX80 ++ wsX90 ++ wsX50 ++ wsX60 ++ (vx_at0 RX11 82 "java/lang/IndexOutOfBoundsException" ["java/lang/RuntimeException", "java/lang/Exception"]).filter goodWord ++ (vx_at0 RX11 119 "java/util/NoSuchElementException" ["java/lang/RuntimeException", "java/lang/Exception"]).filter goodWord ++ (vx_atM "java/lang/ArrayIndexOutOfBoundsException" ["java/lang/IndexOutOfBoundsException", "java/lang/RuntimeException", "java/lang/Exception"]).filter goodWord)
def wsX11_multiplicity_r1 : List Cond := [Cond.classLink RX11 80 "java/lang/IndexOutOfBoundsException", Cond.initialized "java/lang/IndexOutOfBoundsException", Cond.fieldLink RX11 26 "ModedMill" "last" "LModedMill$Report;", Cond.methodLink RX11 264 yX11_refuseUnasked, Cond.instanceMethod yX11_refuseUnasked, Cond.selects RX11 yX11_refuseUnasked yX11_refuseUnasked, Cond.initialized RX11, Cond.code yX11_refuseUnasked cX11_refuseUnasked 1 none, Cond.classLink RX11 117 "java/util/NoSuchElementException", Cond.initialized "java/util/NoSuchElementException", Cond.fieldLink RX11 55 "ModedMill" "asked" "I", Cond.methodLink RX11 271 yX8_hasAnswer, Cond.instanceMethod yX8_hasAnswer, Cond.selects RX8 yX8_hasAnswer yX8_hasAnswer, Cond.initialized RX8, Cond.code yX8_hasAnswer cX8_hasAnswer 2 (some .boolean), Cond.fieldLink RX8 24 "ModedMill$Report" "answers" "LModedMill$Table;", Cond.methodLink RX8 73 yX9_count, Cond.instanceMethod yX9_count, Cond.selects RX9 yX9_count yX9_count, Cond.initialized RX9, Cond.code yX9_count cX9_count 1 (some .int), Cond.fieldLink RX9 20 "ModedMill$Table" "lines" "I", Cond.methodLink RX11 280 yX8_countLike]
def wsX11_multiplicity_r2 : List Cond := [Cond.instanceMethod yX8_countLike, Cond.selects RX8 yX8_countLike yX8_countLike, Cond.code yX8_countLike cX8_countLike 6 (some .int), Cond.methodLink RX8 69 yX9_get, Cond.instanceMethod yX9_get, Cond.selects RX9 yX9_get yX9_get, Cond.code yX9_get cX9_get 5 (some .int), Cond.fieldLink RX9 9 "ModedMill$Table" "columns" "I", Cond.fieldLink RX9 16 "ModedMill$Table" "cells" "[I"]
def wsX11_multiplicity : List Cond := .code yX11_multiplicity cX11_multiplicity 2 (some .int) :: ((wsX11_multiplicity_r1 ++ wsX11_multiplicity_r2) ++ wsX110 ++ wsX80 ++ wsX90 ++ (vx_at0 RX11 82 "java/lang/IndexOutOfBoundsException" ["java/lang/RuntimeException", "java/lang/Exception"]).filter goodWord ++ (vx_at0 RX11 119 "java/util/NoSuchElementException" ["java/lang/RuntimeException", "java/lang/Exception"]).filter goodWord ++ (vx_atM "java/lang/ArrayIndexOutOfBoundsException" ["java/lang/IndexOutOfBoundsException", "java/lang/RuntimeException", "java/lang/Exception"]).filter goodWord)
def wsX11_answersByBreadth_r1 : List Cond := [Cond.classLink RX11 255 "java/lang/UnsupportedOperationException", Cond.initialized "java/lang/UnsupportedOperationException", Cond.fieldLink RX11 26 "ModedMill" "last" "LModedMill$Report;", Cond.fieldLink RX11 47 "ModedMill" "breadth" "LModedMill$Breadth;", Cond.methodLink RX11 264 yX11_refuseUnasked, Cond.instanceMethod yX11_refuseUnasked, Cond.selects RX11 yX11_refuseUnasked yX11_refuseUnasked, Cond.initialized RX11, Cond.code yX11_refuseUnasked cX11_refuseUnasked 1 none, Cond.classLink RX11 117 "java/util/NoSuchElementException", Cond.initialized "java/util/NoSuchElementException", Cond.fieldLink RX11 55 "ModedMill" "asked" "I", Cond.methodLink RX11 286 yX0_count, Cond.instanceMethod yX0_count, Cond.selects RX0 yX0_count yX0_count, Cond.initialized RX0, Cond.code yX0_count cX0_count 5 (some .int), Cond.constant RX0 65 (1000000), Cond.fieldLink RX0 66 "ModedMill$Breadth" "front" "I", Cond.fieldLink RX0 37 "ModedMill$Breadth" "row" "LModedMill$Table;", Cond.fieldLink RX0 43 "ModedMill$Breadth" "levels" "LModedMill$Table;", Cond.fieldLink RX0 78 "ModedMill$Breadth" "taken" "I", Cond.fieldLink RX0 34 "ModedMill$Breadth" "lists" "LModedMill$Table;", Cond.methodLink RX0 61 yX0_begin]
def wsX11_answersByBreadth_r2 : List Cond := [Cond.instanceMethod yX0_begin, Cond.selects RX0 yX0_begin yX0_begin, Cond.code yX0_begin cX0_begin 5 none, Cond.fieldLink RX0 24 "ModedMill$Breadth" "nodes" "LModedMill$Table;", Cond.fieldLink RX0 28 "ModedMill$Breadth" "variables" "LModedMill$Table;", Cond.fieldLink RX0 31 "ModedMill$Breadth" "cells" "LModedMill$Table;", Cond.fieldLink RX0 40 "ModedMill$Breadth" "bindings" "LModedMill$Table;", Cond.fieldLink RX0 95 "ModedMill$Breadth" "restored" "I", Cond.fieldLink RX0 98 "ModedMill$Breadth" "round" "I", Cond.fieldLink RX0 15 "ModedMill$Breadth" "store" "LModedMill$Terms;", Cond.fieldLink RX0 117 "ModedMill$Breadth" "groundCount" "I", Cond.methodLink RX0 92 yX9_cut, Cond.instanceMethod yX9_cut, Cond.selects RX9 yX9_cut yX9_cut, Cond.initialized RX9, Cond.code yX9_cut cX9_cut 2 none, Cond.fieldLink RX9 20 "ModedMill$Table" "lines" "I", Cond.methodLink RX0 101 yX10_termCount, Cond.instanceMethod yX10_termCount, Cond.selects RX10 yX10_termCount yX10_termCount, Cond.initialized RX10, Cond.code yX10_termCount cX10_termCount 1 (some .int), Cond.fieldLink RX10 24 "ModedMill$Terms" "numbered" "LModedMill$Table;", Cond.methodLink RX10 38 yX9_count]
def wsX11_answersByBreadth_r3 : List Cond := [Cond.instanceMethod yX9_count, Cond.selects RX9 yX9_count yX9_count, Cond.code yX9_count cX9_count 1 (some .int), Cond.methodLink RX0 106 yX10_headOf, Cond.instanceMethod yX10_headOf, Cond.selects RX10 yX10_headOf yX10_headOf, Cond.code yX10_headOf cX10_headOf 2 (some .int), Cond.methodLink RX10 42 yX9_get, Cond.instanceMethod yX9_get, Cond.selects RX9 yX9_get yX9_get, Cond.code yX9_get cX9_get 5 (some .int), Cond.fieldLink RX9 9 "ModedMill$Table" "columns" "I", Cond.fieldLink RX9 16 "ModedMill$Table" "cells" "[I", Cond.methodLink RX0 110 yX10_part, Cond.instanceMethod yX10_part, Cond.selects RX10 yX10_part yX10_part, Cond.code yX10_part cX10_part 3 (some .int), Cond.methodLink RX0 113 yX9_add, Cond.instanceMethod yX9_add, Cond.selects RX9 yX9_add yX9_add, Cond.code yX9_add cX9_add 6 (some .int), Cond.constant RX9 15 (1000000), Cond.methodLink RX9 23 yJ7_copyOf_59c91, Cond.static yJ7_copyOf_59c91]
def wsX11_answersByBreadth_r4 : List Cond := [Cond.initialized RJ7, Cond.code yJ7_copyOf_59c91 cJ7_copyOf_59c91 3 (some (.array .int)), Cond.methodLink RJ7 316 ⟨"[I", "clone", "()Ljava/lang/Object;"⟩, Cond.sameMethod "[I" "java/lang/Object" "clone" "()Ljava/lang/Object;", Cond.native ⟨"java/lang/Object", "clone", "()Ljava/lang/Object;"⟩, Cond.instanceMethod ⟨"java/lang/Object", "clone", "()Ljava/lang/Object;"⟩, Cond.selects "[I" ⟨"[I", "clone", "()Ljava/lang/Object;"⟩ ⟨"java/lang/Object", "clone", "()Ljava/lang/Object;"⟩, Cond.classLink RJ7 317 "[I", Cond.arrayClass .int, Cond.methodLink RJ7 304 Lib.Math.min.name, Cond.static Lib.Math.min.name, Cond.initialized "java/lang/Math", Cond.code Lib.Math.min.name Lib.Math.min.code 2 (some .int), Cond.methodLink RJ7 150 arraycopyName, Cond.native arraycopyName, Cond.static arraycopyName, Cond.initialized "java/lang/System", Cond.methodLink RX9 29 yJ7_fill_fda19, Cond.static yJ7_fill_fda19, Cond.code yJ7_fill_fda19 cJ7_fill_fda19 5 none, Cond.methodLink RJ7 13 yJ7_rangeCheck_23922, Cond.static yJ7_rangeCheck_23922, Cond.code yJ7_rangeCheck_23922 cJ7_rangeCheck_23922 3 none, Cond.classLink RJ7 45 RJ4]
def wsX11_answersByBreadth_r5 : List Cond := [Cond.instantiable RJ4 4, Cond.initialized RJ4, Cond.classLink RJ7 68 RJx00060, Cond.instantiable RJx00060 6, Cond.initialized RJx00060, Cond.methodLink RX9 33 yX9_set, Cond.instanceMethod yX9_set, Cond.selects RX9 yX9_set yX9_set, Cond.code yX9_set cX9_set 6 none, Cond.methodLink RX0 70 yX9_count, Cond.methodLink RX0 120 yX6_arity, Cond.instanceMethod yX6_arity, Cond.selects RX6 yX6_arity yX6_arity, Cond.initialized RX6, Cond.code yX6_arity cX6_arity 1 (some .int), Cond.fieldLink RX6 20 "ModedMill$Predicate" "types" "LModedMill$Table;", Cond.methodLink RX6 51 yX9_count, Cond.methodLink RX0 125 yX8_inputAt, Cond.instanceMethod yX8_inputAt, Cond.selects RX8 yX8_inputAt yX8_inputAt, Cond.initialized RX8, Cond.code yX8_inputAt cX8_inputAt 2 (some .int), Cond.fieldLink RX8 20 "ModedMill$Report" "inputs" "LModedMill$Table;", Cond.methodLink RX8 69 yX9_get]
def wsX11_answersByBreadth_r6 : List Cond := [Cond.methodLink RX0 128 yX0_newUnknown, Cond.instanceMethod yX0_newUnknown, Cond.selects RX0 yX0_newUnknown yX0_newUnknown, Cond.code yX0_newUnknown cX0_newUnknown 1 (some .int), Cond.methodLink RX0 134 yX0_putQuestion, Cond.instanceMethod yX0_putQuestion, Cond.selects RX0 yX0_putQuestion yX0_putQuestion, Cond.code yX0_putQuestion cX0_putQuestion 4 none, Cond.methodLink RX0 138 yX0_addToRow, Cond.instanceMethod yX0_addToRow, Cond.selects RX0 yX0_addToRow yX0_addToRow, Cond.code yX0_addToRow cX0_addToRow 7 none, Cond.methodLink RX0 142 yX9_set, Cond.methodLink RX0 74 yX0_endDenied, Cond.instanceMethod yX0_endDenied, Cond.selects RX0 yX0_endDenied yX0_endDenied, Cond.code yX0_endDenied cX0_endDenied 3 none, Cond.methodLink RX0 84 yX9_get, Cond.methodLink RX0 81 yX0_takeOff, Cond.instanceMethod yX0_takeOff, Cond.selects RX0 yX0_takeOff yX0_takeOff, Cond.code yX0_takeOff cX0_takeOff 7 (some .int), Cond.fieldLink RX0 9 "ModedMill$Breadth" "program" "LModedMill$Program;", Cond.methodLink RX0 170 yX0_goalOf]
def wsX11_answersByBreadth_r7 : List Cond := [Cond.instanceMethod yX0_goalOf, Cond.selects RX0 yX0_goalOf yX0_goalOf, Cond.code yX0_goalOf cX0_goalOf 4 (some (.object "ModedMill$Goal")), Cond.methodLink RX0 145 yX7_predicateAt, Cond.instanceMethod yX7_predicateAt, Cond.selects RX7 yX7_predicateAt yX7_predicateAt, Cond.initialized RX7, Cond.code yX7_predicateAt cX7_predicateAt 2 (some (.object "ModedMill$Predicate")), Cond.fieldLink RX7 12 "ModedMill$Program" "predicates" "Ljava/util/ArrayList;", Cond.classLink RX7 32 "ModedMill$Predicate", Cond.methodLink RX7 24 yJx4a65c_size_8abf5, Cond.instanceMethod yJx4a65c_size_8abf5, Cond.selects RJx4a65c yJx4a65c_size_8abf5 yJx4a65c_size_8abf5, Cond.initialized RJx4a65c, Cond.code yJx4a65c_size_8abf5 cJx4a65c_size_8abf5 1 (some .int), Cond.fieldLink RJx4a65c 48 "java/util/ArrayList" "size" "I", Cond.methodLink RX7 28 yJx4a65c_get_915e3, Cond.instanceMethod yJx4a65c_get_915e3, Cond.selects RJx4a65c yJx4a65c_get_915e3 yJx4a65c_get_915e3, Cond.code yJx4a65c_get_915e3 cJx4a65c_get_915e3 2 (some (.object "java/lang/Object")), Cond.methodLink RJx4a65c 118 yJ15_checkIndex_7cf53, Cond.static yJ15_checkIndex_7cf53, Cond.initialized RJ15, Cond.code yJ15_checkIndex_7cf53 cJ15_checkIndex_7cf53 2 (some .int)]
def wsX11_answersByBreadth_r8 : List Cond := [Cond.methodLink RJ15 105 yJ3_checkIndex_8e157, Cond.static yJ3_checkIndex_8e157, Cond.initialized RJ3, Cond.code yJ3_checkIndex_8e157 cJ3_checkIndex_8e157 3 (some .int), Cond.methodLink RJx4a65c 123 yJx4a65c_elementData_915e3, Cond.instanceMethod yJx4a65c_elementData_915e3, Cond.selects RJx4a65c yJx4a65c_elementData_915e3 yJx4a65c_elementData_915e3, Cond.code yJx4a65c_elementData_915e3 cJx4a65c_elementData_915e3 2 (some (.object "java/lang/Object")), Cond.fieldLink RJx4a65c 9 "java/util/ArrayList" "elementData" "[Ljava/lang/Object;", Cond.methodLink RX0 155 yX7_clauseAt, Cond.instanceMethod yX7_clauseAt, Cond.selects RX7 yX7_clauseAt yX7_clauseAt, Cond.code yX7_clauseAt cX7_clauseAt 2 (some (.object "ModedMill$Clause")), Cond.fieldLink RX7 21 "ModedMill$Program" "clauses" "Ljava/util/ArrayList;", Cond.classLink RX7 34 "ModedMill$Clause", Cond.methodLink RX0 159 yX1_goalNumbered, Cond.instanceMethod yX1_goalNumbered, Cond.selects RX1 yX1_goalNumbered yX1_goalNumbered, Cond.initialized RX1, Cond.code yX1_goalNumbered cX1_goalNumbered 2 (some (.object "ModedMill$Goal")), Cond.fieldLink RX1 41 "ModedMill$Clause" "goals" "Ljava/util/ArrayList;", Cond.classLink RX1 52 "ModedMill$Goal", Cond.methodLink RX1 71 yJx4a65c_size_8abf5, Cond.methodLink RX1 75 yJx4a65c_get_915e3]
def wsX11_answersByBreadth_r9 : List Cond := [Cond.methodLink RX0 176 yX6_clauseAt, Cond.instanceMethod yX6_clauseAt, Cond.selects RX6 yX6_clauseAt yX6_clauseAt, Cond.code yX6_clauseAt cX6_clauseAt 2 (some (.object "ModedMill$Clause")), Cond.fieldLink RX6 39 "ModedMill$Predicate" "clauses" "Ljava/util/ArrayList;", Cond.classLink RX6 67 "ModedMill$Clause", Cond.methodLink RX6 59 yJx4a65c_size_8abf5, Cond.methodLink RX6 62 yJx4a65c_get_915e3, Cond.methodLink RX0 177 yX0_openClause, Cond.instanceMethod yX0_openClause, Cond.selects RX0 yX0_openClause yX0_openClause, Cond.code yX0_openClause cX0_openClause 8 (some .int), Cond.methodLink RX0 186 yX0_nodeOf, Cond.instanceMethod yX0_nodeOf, Cond.selects RX0 yX0_nodeOf yX0_nodeOf, Cond.code yX0_nodeOf cX0_nodeOf 4 (some .int), Cond.methodLink RX0 165 yX3_variableAt, Cond.instanceMethod yX3_variableAt, Cond.selects RX3 yX3_variableAt yX3_variableAt, Cond.initialized RX3, Cond.code yX3_variableAt cX3_variableAt 2 (some .int), Cond.fieldLink RX3 21 "ModedMill$Goal" "variables" "[I", Cond.methodLink RX0 190 yX1_typeAt, Cond.instanceMethod yX1_typeAt]
def wsX11_answersByBreadth_r10 : List Cond := [Cond.selects RX1 yX1_typeAt yX1_typeAt, Cond.code yX1_typeAt cX1_typeAt 2 (some .int), Cond.fieldLink RX1 24 "ModedMill$Clause" "types" "LModedMill$Table;", Cond.methodLink RX1 67 yX9_get, Cond.methodLink RX0 193 yX1_goalCount, Cond.instanceMethod yX1_goalCount, Cond.selects RX1 yX1_goalCount yX1_goalCount, Cond.code yX1_goalCount cX1_goalCount 1 (some .int), Cond.methodLink RX0 181 yX6_clauseCount, Cond.instanceMethod yX6_clauseCount, Cond.selects RX6 yX6_clauseCount yX6_clauseCount, Cond.code yX6_clauseCount cX6_clauseCount 1 (some .int), Cond.methodLink RX0 88 yX0_resolve, Cond.instanceMethod yX0_resolve, Cond.selects RX0 yX0_resolve yX0_resolve, Cond.code yX0_resolve cX0_resolve 9 none, Cond.methodLink RX0 197 yX0_restore, Cond.instanceMethod yX0_restore, Cond.selects RX0 yX0_restore yX0_restore, Cond.code yX0_restore cX0_restore 2 none, Cond.methodLink RX0 229 yX0_bindPath, Cond.instanceMethod yX0_bindPath, Cond.selects RX0 yX0_bindPath yX0_bindPath, Cond.code yX0_bindPath cX0_bindPath 5 none]
def wsX11_answersByBreadth_r11 : List Cond := [Cond.methodLink RX0 225 yX0_bind, Cond.instanceMethod yX0_bind, Cond.selects RX0 yX0_bind yX0_bind, Cond.code yX0_bind cX0_bind 5 none, Cond.methodLink RX0 200 yX0_firstToResolve, Cond.instanceMethod yX0_firstToResolve, Cond.selects RX0 yX0_firstToResolve yX0_firstToResolve, Cond.code yX0_firstToResolve cX0_firstToResolve 5 (some .int), Cond.methodLink RX0 233 yX0_isGround, Cond.instanceMethod yX0_isGround, Cond.selects RX0 yX0_isGround yX0_isGround, Cond.code yX0_isGround cX0_isGround 5 (some .boolean), Cond.methodLink RX0 237 yX0_find, Cond.instanceMethod yX0_find, Cond.selects RX0 yX0_find yX0_find, Cond.code yX0_find cX0_find 5 (some .int), Cond.methodLink RX0 254 yX0_markOf, Cond.instanceMethod yX0_markOf, Cond.selects RX0 yX0_markOf yX0_markOf, Cond.code yX0_markOf cX0_markOf 3 (some .int), Cond.methodLink RX0 245 Lib.Math.max.name, Cond.static Lib.Math.max.name, Cond.code Lib.Math.max.name Lib.Math.max.code 2 (some .int), Cond.methodLink RX0 257 yX0_scan]
def wsX11_answersByBreadth_r12 : List Cond := [Cond.instanceMethod yX0_scan, Cond.selects RX0 yX0_scan yX0_scan, Cond.code yX0_scan cX0_scan 9 (some .boolean), Cond.fieldLink RX0 46 "ModedMill$Breadth" "work" "LModedMill$Table;", Cond.methodLink RX0 251 yX10_partCount, Cond.instanceMethod yX10_partCount, Cond.selects RX10 yX10_partCount yX10_partCount, Cond.code yX10_partCount cX10_partCount 2 (some .int), Cond.fieldLink RX10 20 "ModedMill$Terms" "constructors" "LModedMill$Table;", Cond.methodLink RX0 260 yX0_setMark, Cond.instanceMethod yX0_setMark, Cond.selects RX0 yX0_setMark yX0_setMark, Cond.code yX0_setMark cX0_setMark 3 none, Cond.methodLink RX0 203 yX0_without, Cond.instanceMethod yX0_without, Cond.selects RX0 yX0_without yX0_without, Cond.code yX0_without cX0_without 9 (some .int), Cond.methodLink RX0 209 yX0_beginDenied, Cond.instanceMethod yX0_beginDenied, Cond.selects RX0 yX0_beginDenied yX0_beginDenied, Cond.code yX0_beginDenied cX0_beginDenied 8 none, Cond.methodLink RX0 213 yX0_rightSide, Cond.instanceMethod yX0_rightSide, Cond.selects RX0 yX0_rightSide yX0_rightSide]
def wsX11_answersByBreadth_r13 : List Cond := [Cond.code yX0_rightSide cX0_rightSide 5 (some .int), Cond.methodLink RX0 217 yX0_unify, Cond.instanceMethod yX0_unify, Cond.selects RX0 yX0_unify yX0_unify, Cond.code yX0_unify cX0_unify 7 (some .boolean), Cond.methodLink RX0 240 Lib.Math.min.name, Cond.methodLink RX0 248 yX0_join, Cond.instanceMethod yX0_join, Cond.selects RX0 yX0_join yX0_join, Cond.code yX0_join cX0_join 12 (some .boolean), Cond.methodLink RX0 221 yX0_isFinite, Cond.instanceMethod yX0_isFinite, Cond.selects RX0 yX0_isFinite yX0_isFinite, Cond.code yX0_isFinite cX0_isFinite 2 (some .boolean)]
def wsX11_answersByBreadth : List Cond := .code yX11_answersByBreadth cX11_answersByBreadth 1 (some .int) :: ((wsX11_answersByBreadth_r1 ++ (wsX11_answersByBreadth_r2 ++ (wsX11_answersByBreadth_r3 ++ (wsX11_answersByBreadth_r4 ++ (wsX11_answersByBreadth_r5 ++ (wsX11_answersByBreadth_r6 ++ (wsX11_answersByBreadth_r7 ++ (wsX11_answersByBreadth_r8 ++ (wsX11_answersByBreadth_r9 ++ (wsX11_answersByBreadth_r10 ++ (wsX11_answersByBreadth_r11 ++ (wsX11_answersByBreadth_r12 ++ wsX11_answersByBreadth_r13)))))))))))) ++ wsX110 ++ wsX80 ++ wsX50 ++ wsX00 ++ wsX60 ++ wsX90 ++ wsX100 ++ wsJ40 ++ wsJx000600 ++ wsX30 ++ wsX70 ++ wsJx4a65c0 ++ wsX10 ++ (vx_at0 RX11 257 "java/lang/UnsupportedOperationException" ["java/lang/RuntimeException", "java/lang/Exception"]).filter goodWord ++ (vx_at0 RX11 119 "java/util/NoSuchElementException" ["java/lang/RuntimeException", "java/lang/Exception"]).filter goodWord ++ (vx_atM "java/lang/ArrayIndexOutOfBoundsException" ["java/lang/IndexOutOfBoundsException", "java/lang/RuntimeException", "java/lang/Exception"]).filter goodWord)
def wsX11_steps : List Cond := .code yX11_steps cX11_steps 1 (some .int) :: ([.fieldLink RX11 26 "ModedMill" "last" "LModedMill$Report;", .methodLink RX11 264 yX11_refuseUnasked, .instanceMethod yX11_refuseUnasked, .selects RX11 yX11_refuseUnasked yX11_refuseUnasked, .initialized RX11, .code yX11_refuseUnasked cX11_refuseUnasked 1 none, .classLink RX11 117 "java/util/NoSuchElementException", .initialized "java/util/NoSuchElementException", .fieldLink RX11 55 "ModedMill" "asked" "I"] ++ wsX110 ++ wsX80 ++ (vx_at0 RX11 119 "java/util/NoSuchElementException" ["java/lang/RuntimeException", "java/lang/Exception"]).filter goodWord)
def wsX11_choicePoints : List Cond := .code yX11_choicePoints cX11_choicePoints 1 (some .int) :: ([.fieldLink RX11 26 "ModedMill" "last" "LModedMill$Report;", .methodLink RX11 264 yX11_refuseUnasked, .instanceMethod yX11_refuseUnasked, .selects RX11 yX11_refuseUnasked yX11_refuseUnasked, .initialized RX11, .code yX11_refuseUnasked cX11_refuseUnasked 1 none, .classLink RX11 117 "java/util/NoSuchElementException", .initialized "java/util/NoSuchElementException", .fieldLink RX11 55 "ModedMill" "asked" "I"] ++ wsX110 ++ wsX80 ++ (vx_at0 RX11 119 "java/util/NoSuchElementException" ["java/lang/RuntimeException", "java/lang/Exception"]).filter goodWord)
def wsX11_deepest : List Cond := .code yX11_deepest cX11_deepest 1 (some .int) :: ([.fieldLink RX11 26 "ModedMill" "last" "LModedMill$Report;", .methodLink RX11 264 yX11_refuseUnasked, .instanceMethod yX11_refuseUnasked, .selects RX11 yX11_refuseUnasked yX11_refuseUnasked, .initialized RX11, .code yX11_refuseUnasked cX11_refuseUnasked 1 none, .classLink RX11 117 "java/util/NoSuchElementException", .initialized "java/util/NoSuchElementException", .fieldLink RX11 55 "ModedMill" "asked" "I"] ++ wsX110 ++ wsX80 ++ (vx_at0 RX11 119 "java/util/NoSuchElementException" ["java/lang/RuntimeException", "java/lang/Exception"]).filter goodWord)
def wsX11_recorded : List Cond := .code yX11_recorded cX11_recorded 1 (some .int) :: ([.fieldLink RX11 26 "ModedMill" "last" "LModedMill$Report;", .methodLink RX11 264 yX11_refuseUnasked, .instanceMethod yX11_refuseUnasked, .selects RX11 yX11_refuseUnasked yX11_refuseUnasked, .initialized RX11, .code yX11_refuseUnasked cX11_refuseUnasked 1 none, .classLink RX11 117 "java/util/NoSuchElementException", .initialized "java/util/NoSuchElementException", .fieldLink RX11 55 "ModedMill" "asked" "I", .methodLink RX11 299 yX8_noteCount, .instanceMethod yX8_noteCount, .selects RX8 yX8_noteCount yX8_noteCount, .initialized RX8, .code yX8_noteCount cX8_noteCount 1 (some .int), .fieldLink RX8 27 "ModedMill$Report" "notes" "LModedMill$Table;", .methodLink RX8 73 yX9_count, .instanceMethod yX9_count, .selects RX9 yX9_count yX9_count, .initialized RX9, .code yX9_count cX9_count 1 (some .int), .fieldLink RX9 20 "ModedMill$Table" "lines" "I"] ++ wsX110 ++ wsX80 ++ wsX90 ++ (vx_at0 RX11 119 "java/util/NoSuchElementException" ["java/lang/RuntimeException", "java/lang/Exception"]).filter goodWord)
def wsX11_refuseMissingNote : List Cond := .code yX11_refuseMissingNote cX11_refuseMissingNote 2 none :: ([.classLink RX11 80 "java/lang/IndexOutOfBoundsException", .initialized "java/lang/IndexOutOfBoundsException", .fieldLink RX11 26 "ModedMill" "last" "LModedMill$Report;", .methodLink RX11 264 yX11_refuseUnasked, .instanceMethod yX11_refuseUnasked, .selects RX11 yX11_refuseUnasked yX11_refuseUnasked, .initialized RX11, .code yX11_refuseUnasked cX11_refuseUnasked 1 none, .classLink RX11 117 "java/util/NoSuchElementException", .initialized "java/util/NoSuchElementException", .fieldLink RX11 55 "ModedMill" "asked" "I", .methodLink RX11 299 yX8_noteCount, .instanceMethod yX8_noteCount, .selects RX8 yX8_noteCount yX8_noteCount, .initialized RX8, .code yX8_noteCount cX8_noteCount 1 (some .int), .fieldLink RX8 27 "ModedMill$Report" "notes" "LModedMill$Table;", .methodLink RX8 73 yX9_count, .instanceMethod yX9_count, .selects RX9 yX9_count yX9_count, .initialized RX9, .code yX9_count cX9_count 1 (some .int), .fieldLink RX9 20 "ModedMill$Table" "lines" "I"] ++ wsX110 ++ wsX80 ++ wsX90 ++ (vx_at0 RX11 82 "java/lang/IndexOutOfBoundsException" ["java/lang/RuntimeException", "java/lang/Exception"]).filter goodWord ++ (vx_at0 RX11 119 "java/util/NoSuchElementException" ["java/lang/RuntimeException", "java/lang/Exception"]).filter goodWord)
def wsX11_recordAt_r1 : List Cond := [Cond.fieldLink RX11 26 "ModedMill" "last" "LModedMill$Report;", Cond.methodLink RX11 302 yX11_refuseMissingNote, Cond.instanceMethod yX11_refuseMissingNote, Cond.selects RX11 yX11_refuseMissingNote yX11_refuseMissingNote, Cond.initialized RX11, Cond.code yX11_refuseMissingNote cX11_refuseMissingNote 2 none, Cond.classLink RX11 80 "java/lang/IndexOutOfBoundsException", Cond.initialized "java/lang/IndexOutOfBoundsException", Cond.methodLink RX11 264 yX11_refuseUnasked, Cond.instanceMethod yX11_refuseUnasked, Cond.selects RX11 yX11_refuseUnasked yX11_refuseUnasked, Cond.code yX11_refuseUnasked cX11_refuseUnasked 1 none, Cond.classLink RX11 117 "java/util/NoSuchElementException", Cond.initialized "java/util/NoSuchElementException", Cond.fieldLink RX11 55 "ModedMill" "asked" "I", Cond.methodLink RX11 299 yX8_noteCount, Cond.instanceMethod yX8_noteCount, Cond.selects RX8 yX8_noteCount yX8_noteCount, Cond.initialized RX8, Cond.code yX8_noteCount cX8_noteCount 1 (some .int), Cond.fieldLink RX8 27 "ModedMill$Report" "notes" "LModedMill$Table;", Cond.methodLink RX8 73 yX9_count, Cond.instanceMethod yX9_count, Cond.selects RX9 yX9_count yX9_count]
def wsX11_recordAt_r2 : List Cond := [Cond.initialized RX9, Cond.code yX9_count cX9_count 1 (some .int), Cond.fieldLink RX9 20 "ModedMill$Table" "lines" "I", Cond.methodLink RX11 305 yX8_noteSign, Cond.instanceMethod yX8_noteSign, Cond.selects RX8 yX8_noteSign yX8_noteSign, Cond.code yX8_noteSign cX8_noteSign 2 (some .char), Cond.methodLink RX8 69 yX9_get, Cond.instanceMethod yX9_get, Cond.selects RX9 yX9_get yX9_get, Cond.code yX9_get cX9_get 5 (some .int), Cond.fieldLink RX9 9 "ModedMill$Table" "columns" "I", Cond.fieldLink RX9 16 "ModedMill$Table" "cells" "[I"]
def wsX11_recordAt : List Cond := .code yX11_recordAt cX11_recordAt 2 (some .char) :: ((wsX11_recordAt_r1 ++ wsX11_recordAt_r2) ++ wsX110 ++ wsX80 ++ wsX90 ++ (vx_at0 RX11 82 "java/lang/IndexOutOfBoundsException" ["java/lang/RuntimeException", "java/lang/Exception"]).filter goodWord ++ (vx_at0 RX11 119 "java/util/NoSuchElementException" ["java/lang/RuntimeException", "java/lang/Exception"]).filter goodWord ++ (vx_atM "java/lang/ArrayIndexOutOfBoundsException" ["java/lang/IndexOutOfBoundsException", "java/lang/RuntimeException", "java/lang/Exception"]).filter goodWord)
def wsX11_whereAt_r1 : List Cond := [Cond.fieldLink RX11 26 "ModedMill" "last" "LModedMill$Report;", Cond.methodLink RX11 302 yX11_refuseMissingNote, Cond.instanceMethod yX11_refuseMissingNote, Cond.selects RX11 yX11_refuseMissingNote yX11_refuseMissingNote, Cond.initialized RX11, Cond.code yX11_refuseMissingNote cX11_refuseMissingNote 2 none, Cond.classLink RX11 80 "java/lang/IndexOutOfBoundsException", Cond.initialized "java/lang/IndexOutOfBoundsException", Cond.methodLink RX11 264 yX11_refuseUnasked, Cond.instanceMethod yX11_refuseUnasked, Cond.selects RX11 yX11_refuseUnasked yX11_refuseUnasked, Cond.code yX11_refuseUnasked cX11_refuseUnasked 1 none, Cond.classLink RX11 117 "java/util/NoSuchElementException", Cond.initialized "java/util/NoSuchElementException", Cond.fieldLink RX11 55 "ModedMill" "asked" "I", Cond.methodLink RX11 299 yX8_noteCount, Cond.instanceMethod yX8_noteCount, Cond.selects RX8 yX8_noteCount yX8_noteCount, Cond.initialized RX8, Cond.code yX8_noteCount cX8_noteCount 1 (some .int), Cond.fieldLink RX8 27 "ModedMill$Report" "notes" "LModedMill$Table;", Cond.methodLink RX8 73 yX9_count, Cond.instanceMethod yX9_count, Cond.selects RX9 yX9_count yX9_count]
def wsX11_whereAt_r2 : List Cond := [Cond.initialized RX9, Cond.code yX9_count cX9_count 1 (some .int), Cond.fieldLink RX9 20 "ModedMill$Table" "lines" "I", Cond.methodLink RX11 309 yX8_notePlace, Cond.instanceMethod yX8_notePlace, Cond.selects RX8 yX8_notePlace yX8_notePlace, Cond.code yX8_notePlace cX8_notePlace 2 (some .int), Cond.methodLink RX8 69 yX9_get, Cond.instanceMethod yX9_get, Cond.selects RX9 yX9_get yX9_get, Cond.code yX9_get cX9_get 5 (some .int), Cond.fieldLink RX9 9 "ModedMill$Table" "columns" "I", Cond.fieldLink RX9 16 "ModedMill$Table" "cells" "[I"]
def wsX11_whereAt : List Cond := .code yX11_whereAt cX11_whereAt 2 (some .int) :: ((wsX11_whereAt_r1 ++ wsX11_whereAt_r2) ++ wsX110 ++ wsX80 ++ wsX90 ++ (vx_at0 RX11 82 "java/lang/IndexOutOfBoundsException" ["java/lang/RuntimeException", "java/lang/Exception"]).filter goodWord ++ (vx_at0 RX11 119 "java/util/NoSuchElementException" ["java/lang/RuntimeException", "java/lang/Exception"]).filter goodWord ++ (vx_atM "java/lang/ArrayIndexOutOfBoundsException" ["java/lang/IndexOutOfBoundsException", "java/lang/RuntimeException", "java/lang/Exception"]).filter goodWord)
def wsX11_terms : List Cond := .code yX11_terms cX11_terms 1 (some .int) :: ([.fieldLink RX11 10 "ModedMill" "store" "LModedMill$Terms;", .methodLink RX11 312 yX10_termCount, .instanceMethod yX10_termCount, .selects RX10 yX10_termCount yX10_termCount, .initialized RX10, .code yX10_termCount cX10_termCount 1 (some .int), .fieldLink RX10 24 "ModedMill$Terms" "numbered" "LModedMill$Table;", .methodLink RX10 38 yX9_count, .instanceMethod yX9_count, .selects RX9 yX9_count yX9_count, .initialized RX9, .code yX9_count cX9_count 1 (some .int), .fieldLink RX9 20 "ModedMill$Table" "lines" "I"] ++ wsX110 ++ wsX100 ++ wsX90)
def wsX11_onceShare_r1 : List Cond := [Cond.classLink RX11 318 "java/lang/ArithmeticException", Cond.initialized "java/lang/ArithmeticException", Cond.fieldLink RX11 19 "ModedMill" "program" "LModedMill$Program;", Cond.methodLink RX11 199 yX11_refuseUncompiled, Cond.instanceMethod yX11_refuseUncompiled, Cond.selects RX11 yX11_refuseUncompiled yX11_refuseUncompiled, Cond.initialized RX11, Cond.code yX11_refuseUncompiled cX11_refuseUncompiled 1 none, Cond.classLink RX11 67 "java/lang/IllegalStateException", Cond.initialized "java/lang/IllegalStateException", Cond.fieldLink RX11 51 "ModedMill" "isCompiled" "Z", Cond.methodLink RX11 315 yX7_goodCount, Cond.instanceMethod yX7_goodCount, Cond.selects RX7 yX7_goodCount yX7_goodCount, Cond.initialized RX7, Cond.code yX7_goodCount cX7_goodCount 3 (some .int), Cond.fieldLink RX7 18 "ModedMill$Program" "modes" "Ljava/util/ArrayList;", Cond.classLink RX7 51 "ModedMill$Mode", Cond.methodLink RX7 24 yJx4a65c_size_8abf5, Cond.instanceMethod yJx4a65c_size_8abf5, Cond.selects RJx4a65c yJx4a65c_size_8abf5 yJx4a65c_size_8abf5, Cond.initialized RJx4a65c, Cond.code yJx4a65c_size_8abf5 cJx4a65c_size_8abf5 1 (some .int), Cond.fieldLink RJx4a65c 48 "java/util/ArrayList" "size" "I"]
def wsX11_onceShare_r2 : List Cond := [Cond.methodLink RX7 28 yJx4a65c_get_915e3, Cond.instanceMethod yJx4a65c_get_915e3, Cond.selects RJx4a65c yJx4a65c_get_915e3 yJx4a65c_get_915e3, Cond.code yJx4a65c_get_915e3 cJx4a65c_get_915e3 2 (some (.object "java/lang/Object")), Cond.methodLink RJx4a65c 118 yJ15_checkIndex_7cf53, Cond.static yJ15_checkIndex_7cf53, Cond.initialized RJ15, Cond.code yJ15_checkIndex_7cf53 cJ15_checkIndex_7cf53 2 (some .int), Cond.methodLink RJ15 105 yJ3_checkIndex_8e157, Cond.static yJ3_checkIndex_8e157, Cond.initialized RJ3, Cond.code yJ3_checkIndex_8e157 cJ3_checkIndex_8e157 3 (some .int), Cond.methodLink RJx4a65c 123 yJx4a65c_elementData_915e3, Cond.instanceMethod yJx4a65c_elementData_915e3, Cond.selects RJx4a65c yJx4a65c_elementData_915e3 yJx4a65c_elementData_915e3, Cond.code yJx4a65c_elementData_915e3 cJx4a65c_elementData_915e3 2 (some (.object "java/lang/Object")), Cond.fieldLink RJx4a65c 9 "java/util/ArrayList" "elementData" "[Ljava/lang/Object;", Cond.methodLink RX11 321 yX7_onceCount, Cond.instanceMethod yX7_onceCount, Cond.selects RX7 yX7_onceCount yX7_onceCount, Cond.code yX7_onceCount cX7_onceCount 3 (some .int)]
def wsX11_onceShare : List Cond := .code yX11_onceShare cX11_onceShare 2 (some .float) :: ((wsX11_onceShare_r1 ++ wsX11_onceShare_r2) ++ wsX110 ++ wsX70 ++ wsX50 ++ wsJx4a65c0 ++ (vx_at0 RX11 320 "java/lang/ArithmeticException" ["java/lang/RuntimeException", "java/lang/Exception"]).filter goodWord ++ (vx_at0 RX11 69 "java/lang/IllegalStateException" ["java/lang/RuntimeException", "java/lang/Exception"]).filter goodWord)
def wsX11_meanSteps : List Cond := .code yX11_meanSteps cX11_meanSteps 1 (some .double) :: ([.classLink RX11 318 "java/lang/ArithmeticException", .initialized "java/lang/ArithmeticException", .fieldLink RX11 55 "ModedMill" "asked" "I", .fieldLink RX11 59 "ModedMill" "stepSum" "J"] ++ wsX110 ++ (vx_at0 RX11 320 "java/lang/ArithmeticException" ["java/lang/RuntimeException", "java/lang/Exception"]).filter goodWord)
def wsX18_init_r1 : List Cond := [Cond.methodLink RX18 1 objectInit, Cond.instanceMethod objectInit, Cond.code objectInit ⟨#[0xb1]⟩ 1 none, Cond.arrayClass .int, Cond.fieldLink RX18 7 "ModedMillModel" "typeOf" "[I", Cond.fieldLink RX18 13 "ModedMillModel" "partType" "[I", Cond.fieldLink RX18 16 "ModedMillModel" "termConstructor" "[I", Cond.fieldLink RX18 19 "ModedMillModel" "termPart" "[I", Cond.arrayClass .long, Cond.fieldLink RX18 22 "ModedMillModel" "termSize" "[J", Cond.fieldLink RX18 26 "ModedMillModel" "arity" "[I", Cond.fieldLink RX18 29 "ModedMillModel" "argumentType" "[I", Cond.fieldLink RX18 32 "ModedMillModel" "modes" "[I", Cond.fieldLink RX18 35 "ModedMillModel" "inputs" "[I", Cond.arrayClass .char, Cond.fieldLink RX18 38 "ModedMillModel" "promises" "[C", Cond.fieldLink RX18 42 "ModedMillModel" "clauseOf" "[I", Cond.fieldLink RX18 45 "ModedMillModel" "goals" "[I", Cond.fieldLink RX18 48 "ModedMillModel" "variableType" "[I", Cond.fieldLink RX18 51 "ModedMillModel" "goalKind" "[C", Cond.fieldLink RX18 54 "ModedMillModel" "goalWhat" "[I", Cond.fieldLink RX18 57 "ModedMillModel" "goalVariable" "[I", Cond.fieldLink RX18 60 "ModedMillModel" "ordered" "[I", Cond.fieldLink RX18 63 "ModedMillModel" "orderGoal" "[I"]
def wsX18_init_r2 : List Cond := [Cond.fieldLink RX18 66 "ModedMillModel" "orderMode" "[I", Cond.fieldLink RX18 69 "ModedMillModel" "orderKnown" "[I", Cond.arrayClass .boolean, Cond.fieldLink RX18 72 "ModedMillModel" "isFaulty" "[Z", Cond.fieldLink RX18 76 "ModedMillModel" "good" "[Z", Cond.fieldLink RX18 79 "ModedMillModel" "canFail" "[Z", Cond.fieldLink RX18 82 "ModedMillModel" "canMore" "[Z", Cond.fieldLink RX18 85 "ModedMillModel" "switches" "[I", Cond.fieldLink RX18 88 "ModedMillModel" "tried" "[I", Cond.fieldLink RX18 91 "ModedMillModel" "asked" "[I", Cond.fieldLink RX18 94 "ModedMillModel" "answer" "[I", Cond.fieldLink RX18 97 "ModedMillModel" "recordKind" "[C", Cond.fieldLink RX18 100 "ModedMillModel" "recordWhere" "[I", Cond.fieldLink RX18 103 "ModedMillModel" "runAnswer" "[I", Cond.fieldLink RX18 106 "ModedMillModel" "runKind" "[C", Cond.fieldLink RX18 109 "ModedMillModel" "runWhere" "[I", Cond.classLink RX18 112 RX14, Cond.fieldLink RX18 114 "ModedMillModel" "boundFrame" "[LModedMillModel$Frame;", Cond.fieldLink RX18 118 "ModedMillModel" "boundVariable" "[I", Cond.classLink RX18 121 RX17, Cond.fieldLink RX18 123 "ModedMillModel" "pairOne" "[LModedMillModel$Node;", Cond.fieldLink RX18 127 "ModedMillModel" "pairOther" "[LModedMillModel$Node;"]
def wsX18_init : List Cond := .code yX18_init cX18_init 1 none :: ((wsX18_init_r1 ++ wsX18_init_r2) ++ wsX180)
def wsX18_thrown : List Cond := .code yX18_thrown cX18_thrown 1 (some .int) :: ([.fieldLink RX18 130 "ModedMillModel" "code" "I"] ++ wsX180)
def wsX18_in : List Cond := .code yX18_in cX18_in 3 (some .boolean) :: ([])
def wsX18_fails : List Cond := .code yX18_fails cX18_fails 2 (some .int) :: ([.fieldLink RX18 130 "ModedMillModel" "code" "I"] ++ wsX180)
def wsX18_addType : List Cond := .code yX18_addType cX18_addType 1 (some .int) :: ([.fieldLink RX18 130 "ModedMillModel" "code" "I", .fieldLink RX18 134 "ModedMillModel" "types" "I", .fieldLink RX18 137 "ModedMillModel" "isCompiled" "Z", .methodLink RX18 141 yX18_fails, .instanceMethod yX18_fails, .selects RX18 yX18_fails yX18_fails, .initialized RX18, .code yX18_fails cX18_fails 2 (some .int)] ++ wsX180)
def wsX18_addConstructor : List Cond := .code yX18_addConstructor cX18_addConstructor 4 (some .int) :: ([.fieldLink RX18 130 "ModedMillModel" "code" "I", .fieldLink RX18 134 "ModedMillModel" "types" "I", .fieldLink RX18 149 "ModedMillModel" "constructors" "I", .fieldLink RX18 137 "ModedMillModel" "isCompiled" "Z", .fieldLink RX18 7 "ModedMillModel" "typeOf" "[I", .fieldLink RX18 13 "ModedMillModel" "partType" "[I", .methodLink RX18 145 yX18_in, .static yX18_in, .initialized RX18, .code yX18_in cX18_in 3 (some .boolean), .methodLink RX18 141 yX18_fails, .instanceMethod yX18_fails, .selects RX18 yX18_fails yX18_fails, .code yX18_fails cX18_fails 2 (some .int)] ++ wsX180 ++ (vx_atM "java/lang/ArrayIndexOutOfBoundsException" ["java/lang/IndexOutOfBoundsException", "java/lang/RuntimeException", "java/lang/Exception"]).filter goodWord)
def wsX18_parts : List Cond := .code yX18_parts cX18_parts 2 (some .int) :: ([.fieldLink RX18 13 "ModedMillModel" "partType" "[I"] ++ wsX180 ++ (vx_atM "java/lang/ArrayIndexOutOfBoundsException" ["java/lang/IndexOutOfBoundsException", "java/lang/RuntimeException", "java/lang/Exception"]).filter goodWord)
def wsX18_isTerm : List Cond := .code yX18_isTerm cX18_isTerm 2 (some .boolean) :: ([.fieldLink RX18 152 "ModedMillModel" "terms" "I", .methodLink RX18 145 yX18_in, .static yX18_in, .initialized RX18, .code yX18_in cX18_in 3 (some .boolean)] ++ wsX180)
def wsX18_typeOfTerm : List Cond := .code yX18_typeOfTerm cX18_typeOfTerm 2 (some .int) :: ([.fieldLink RX18 7 "ModedMillModel" "typeOf" "[I", .fieldLink RX18 16 "ModedMillModel" "termConstructor" "[I"] ++ wsX180 ++ (vx_atM "java/lang/ArrayIndexOutOfBoundsException" ["java/lang/IndexOutOfBoundsException", "java/lang/RuntimeException", "java/lang/Exception"]).filter goodWord)
def wsX18_term_r1 : List Cond := [Cond.fieldLink RX18 130 "ModedMillModel" "code" "I", Cond.fieldLink RX18 149 "ModedMillModel" "constructors" "I", Cond.fieldLink RX18 13 "ModedMillModel" "partType" "[I", Cond.methodLink RX18 145 yX18_in, Cond.static yX18_in, Cond.initialized RX18, Cond.code yX18_in cX18_in 3 (some .boolean), Cond.methodLink RX18 155 yX18_parts, Cond.instanceMethod yX18_parts, Cond.selects RX18 yX18_parts yX18_parts, Cond.code yX18_parts cX18_parts 2 (some .int), Cond.methodLink RX18 158 yX18_isTerm, Cond.instanceMethod yX18_isTerm, Cond.selects RX18 yX18_isTerm yX18_isTerm, Cond.code yX18_isTerm cX18_isTerm 2 (some .boolean), Cond.fieldLink RX18 152 "ModedMillModel" "terms" "I", Cond.methodLink RX18 141 yX18_fails, Cond.instanceMethod yX18_fails, Cond.selects RX18 yX18_fails yX18_fails, Cond.code yX18_fails cX18_fails 2 (some .int), Cond.methodLink RX18 162 yX18_typeOfTerm, Cond.instanceMethod yX18_typeOfTerm, Cond.selects RX18 yX18_typeOfTerm yX18_typeOfTerm, Cond.code yX18_typeOfTerm cX18_typeOfTerm 2 (some .int)]
def wsX18_term_r2 : List Cond := [Cond.fieldLink RX18 7 "ModedMillModel" "typeOf" "[I", Cond.fieldLink RX18 16 "ModedMillModel" "termConstructor" "[I", Cond.methodLink RX18 165 yX18_numbered, Cond.instanceMethod yX18_numbered, Cond.selects RX18 yX18_numbered yX18_numbered, Cond.code yX18_numbered cX18_numbered 5 (some .int), Cond.fieldLink RX18 19 "ModedMillModel" "termPart" "[I", Cond.fieldLink RX18 22 "ModedMillModel" "termSize" "[J"]
def wsX18_term : List Cond := .code yX18_term cX18_term 7 (some .int) :: ((wsX18_term_r1 ++ wsX18_term_r2) ++ wsX180 ++ (vx_atM "java/lang/ArrayIndexOutOfBoundsException" ["java/lang/IndexOutOfBoundsException", "java/lang/RuntimeException", "java/lang/Exception"]).filter goodWord)
def wsX18_constructorOf : List Cond := .code yX18_constructorOf cX18_constructorOf 2 (some .int) :: ([.fieldLink RX18 130 "ModedMillModel" "code" "I", .fieldLink RX18 16 "ModedMillModel" "termConstructor" "[I", .methodLink RX18 158 yX18_isTerm, .instanceMethod yX18_isTerm, .selects RX18 yX18_isTerm yX18_isTerm, .initialized RX18, .code yX18_isTerm cX18_isTerm 2 (some .boolean), .fieldLink RX18 152 "ModedMillModel" "terms" "I", .methodLink RX18 145 yX18_in, .static yX18_in, .code yX18_in cX18_in 3 (some .boolean), .methodLink RX18 141 yX18_fails, .instanceMethod yX18_fails, .selects RX18 yX18_fails yX18_fails, .code yX18_fails cX18_fails 2 (some .int)] ++ wsX180 ++ (vx_atM "java/lang/ArrayIndexOutOfBoundsException" ["java/lang/IndexOutOfBoundsException", "java/lang/RuntimeException", "java/lang/Exception"]).filter goodWord)
def wsX18_partOf : List Cond := .code yX18_partOf cX18_partOf 3 (some .int) :: ([.fieldLink RX18 130 "ModedMillModel" "code" "I", .fieldLink RX18 16 "ModedMillModel" "termConstructor" "[I", .fieldLink RX18 19 "ModedMillModel" "termPart" "[I", .methodLink RX18 158 yX18_isTerm, .instanceMethod yX18_isTerm, .selects RX18 yX18_isTerm yX18_isTerm, .initialized RX18, .code yX18_isTerm cX18_isTerm 2 (some .boolean), .fieldLink RX18 152 "ModedMillModel" "terms" "I", .methodLink RX18 145 yX18_in, .static yX18_in, .code yX18_in cX18_in 3 (some .boolean), .methodLink RX18 141 yX18_fails, .instanceMethod yX18_fails, .selects RX18 yX18_fails yX18_fails, .code yX18_fails cX18_fails 2 (some .int), .methodLink RX18 155 yX18_parts, .instanceMethod yX18_parts, .selects RX18 yX18_parts yX18_parts, .code yX18_parts cX18_parts 2 (some .int), .fieldLink RX18 13 "ModedMillModel" "partType" "[I"] ++ wsX180 ++ (vx_atM "java/lang/ArrayIndexOutOfBoundsException" ["java/lang/IndexOutOfBoundsException", "java/lang/RuntimeException", "java/lang/Exception"]).filter goodWord)
def wsX18_sizeOf : List Cond := .code yX18_sizeOf cX18_sizeOf 2 (some .long) :: ([.fieldLink RX18 130 "ModedMillModel" "code" "I", .fieldLink RX18 22 "ModedMillModel" "termSize" "[J", .methodLink RX18 158 yX18_isTerm, .instanceMethod yX18_isTerm, .selects RX18 yX18_isTerm yX18_isTerm, .initialized RX18, .code yX18_isTerm cX18_isTerm 2 (some .boolean), .fieldLink RX18 152 "ModedMillModel" "terms" "I", .methodLink RX18 145 yX18_in, .static yX18_in, .code yX18_in cX18_in 3 (some .boolean)] ++ wsX180 ++ (vx_atM "java/lang/ArrayIndexOutOfBoundsException" ["java/lang/IndexOutOfBoundsException", "java/lang/RuntimeException", "java/lang/Exception"]).filter goodWord)
def wsX18_addPredicate : List Cond := .code yX18_addPredicate cX18_addPredicate 4 (some .int) :: ([.fieldLink RX18 130 "ModedMillModel" "code" "I", .fieldLink RX18 134 "ModedMillModel" "types" "I", .fieldLink RX18 169 "ModedMillModel" "predicates" "I", .fieldLink RX18 137 "ModedMillModel" "isCompiled" "Z", .fieldLink RX18 29 "ModedMillModel" "argumentType" "[I", .fieldLink RX18 26 "ModedMillModel" "arity" "[I", .methodLink RX18 145 yX18_in, .static yX18_in, .initialized RX18, .code yX18_in cX18_in 3 (some .boolean), .methodLink RX18 141 yX18_fails, .instanceMethod yX18_fails, .selects RX18 yX18_fails yX18_fails, .code yX18_fails cX18_fails 2 (some .int)] ++ wsX180 ++ (vx_atM "java/lang/ArrayIndexOutOfBoundsException" ["java/lang/IndexOutOfBoundsException", "java/lang/RuntimeException", "java/lang/Exception"]).filter goodWord)
def wsX18_isPredicate : List Cond := .code yX18_isPredicate cX18_isPredicate 2 (some .boolean) :: ([.fieldLink RX18 169 "ModedMillModel" "predicates" "I", .methodLink RX18 145 yX18_in, .static yX18_in, .initialized RX18, .code yX18_in cX18_in 3 (some .boolean)] ++ wsX180)
def wsX18_addMode : List Cond := .code yX18_addMode cX18_addMode 4 (some .int) :: ([.fieldLink RX18 130 "ModedMillModel" "code" "I", .fieldLink RX18 26 "ModedMillModel" "arity" "[I", .fieldLink RX18 32 "ModedMillModel" "modes" "[I", .fieldLink RX18 137 "ModedMillModel" "isCompiled" "Z", .fieldLink RX18 35 "ModedMillModel" "inputs" "[I", .fieldLink RX18 38 "ModedMillModel" "promises" "[C", .methodLink RX18 172 yX18_isPredicate, .instanceMethod yX18_isPredicate, .selects RX18 yX18_isPredicate yX18_isPredicate, .initialized RX18, .code yX18_isPredicate cX18_isPredicate 2 (some .boolean), .fieldLink RX18 169 "ModedMillModel" "predicates" "I", .methodLink RX18 145 yX18_in, .static yX18_in, .code yX18_in cX18_in 3 (some .boolean), .methodLink RX18 141 yX18_fails, .instanceMethod yX18_fails, .selects RX18 yX18_fails yX18_fails, .code yX18_fails cX18_fails 2 (some .int)] ++ wsX180 ++ (vx_atM "java/lang/ArrayIndexOutOfBoundsException" ["java/lang/IndexOutOfBoundsException", "java/lang/RuntimeException", "java/lang/Exception"]).filter goodWord)
def wsX18_addClause : List Cond := .code yX18_addClause cX18_addClause 3 (some .int) :: ([.fieldLink RX18 130 "ModedMillModel" "code" "I", .fieldLink RX18 175 "ModedMillModel" "clauses" "I", .fieldLink RX18 137 "ModedMillModel" "isCompiled" "Z", .fieldLink RX18 42 "ModedMillModel" "clauseOf" "[I", .fieldLink RX18 48 "ModedMillModel" "variableType" "[I", .fieldLink RX18 26 "ModedMillModel" "arity" "[I", .fieldLink RX18 29 "ModedMillModel" "argumentType" "[I", .methodLink RX18 172 yX18_isPredicate, .instanceMethod yX18_isPredicate, .selects RX18 yX18_isPredicate yX18_isPredicate, .initialized RX18, .code yX18_isPredicate cX18_isPredicate 2 (some .boolean), .fieldLink RX18 169 "ModedMillModel" "predicates" "I", .methodLink RX18 145 yX18_in, .static yX18_in, .code yX18_in cX18_in 3 (some .boolean), .methodLink RX18 141 yX18_fails, .instanceMethod yX18_fails, .selects RX18 yX18_fails yX18_fails, .code yX18_fails cX18_fails 2 (some .int)] ++ wsX180 ++ (vx_atM "java/lang/ArrayIndexOutOfBoundsException" ["java/lang/IndexOutOfBoundsException", "java/lang/RuntimeException", "java/lang/Exception"]).filter goodWord)
def wsX18_isClause : List Cond := .code yX18_isClause cX18_isClause 2 (some .boolean) :: ([.fieldLink RX18 175 "ModedMillModel" "clauses" "I", .methodLink RX18 145 yX18_in, .static yX18_in, .initialized RX18, .code yX18_in cX18_in 3 (some .boolean)] ++ wsX180)
def wsX18_addBuild_r1 : List Cond := [Cond.fieldLink RX18 130 "ModedMillModel" "code" "I", Cond.fieldLink RX18 149 "ModedMillModel" "constructors" "I", Cond.fieldLink RX18 7 "ModedMillModel" "typeOf" "[I", Cond.fieldLink RX18 13 "ModedMillModel" "partType" "[I", Cond.methodLink RX18 178 yX18_isClause, Cond.instanceMethod yX18_isClause, Cond.selects RX18 yX18_isClause yX18_isClause, Cond.initialized RX18, Cond.code yX18_isClause cX18_isClause 2 (some .boolean), Cond.fieldLink RX18 175 "ModedMillModel" "clauses" "I", Cond.methodLink RX18 145 yX18_in, Cond.static yX18_in, Cond.code yX18_in cX18_in 3 (some .boolean), Cond.methodLink RX18 141 yX18_fails, Cond.instanceMethod yX18_fails, Cond.selects RX18 yX18_fails yX18_fails, Cond.code yX18_fails cX18_fails 2 (some .int), Cond.methodLink RX18 181 yX18_tries, Cond.instanceMethod yX18_tries, Cond.selects RX18 yX18_tries yX18_tries, Cond.code yX18_tries cX18_tries 3 none, Cond.fieldLink RX18 88 "ModedMillModel" "tried" "[I", Cond.fieldLink RX18 48 "ModedMillModel" "variableType" "[I", Cond.methodLink RX18 185 yX18_fits]
def wsX18_addBuild_r2 : List Cond := [Cond.instanceMethod yX18_fits, Cond.selects RX18 yX18_fits yX18_fits, Cond.code yX18_fits cX18_fits 3 (some .boolean), Cond.methodLink RX18 155 yX18_parts, Cond.instanceMethod yX18_parts, Cond.selects RX18 yX18_parts yX18_parts, Cond.code yX18_parts cX18_parts 2 (some .int), Cond.methodLink RX18 189 yX18_adds, Cond.instanceMethod yX18_adds, Cond.selects RX18 yX18_adds yX18_adds, Cond.code yX18_adds cX18_adds 9 (some .int), Cond.fieldLink RX18 45 "ModedMillModel" "goals" "[I", Cond.fieldLink RX18 137 "ModedMillModel" "isCompiled" "Z", Cond.fieldLink RX18 51 "ModedMillModel" "goalKind" "[C", Cond.fieldLink RX18 54 "ModedMillModel" "goalWhat" "[I", Cond.fieldLink RX18 57 "ModedMillModel" "goalVariable" "[I"]
def wsX18_addBuild : List Cond := .code yX18_addBuild cX18_addBuild 7 (some .int) :: ((wsX18_addBuild_r1 ++ wsX18_addBuild_r2) ++ wsX180 ++ (vx_atM "java/lang/ArrayIndexOutOfBoundsException" ["java/lang/IndexOutOfBoundsException", "java/lang/RuntimeException", "java/lang/Exception"]).filter goodWord)
def wsX18_addSame_r1 : List Cond := [Cond.fieldLink RX18 130 "ModedMillModel" "code" "I", Cond.fieldLink RX18 88 "ModedMillModel" "tried" "[I", Cond.methodLink RX18 178 yX18_isClause, Cond.instanceMethod yX18_isClause, Cond.selects RX18 yX18_isClause yX18_isClause, Cond.initialized RX18, Cond.code yX18_isClause cX18_isClause 2 (some .boolean), Cond.fieldLink RX18 175 "ModedMillModel" "clauses" "I", Cond.methodLink RX18 145 yX18_in, Cond.static yX18_in, Cond.code yX18_in cX18_in 3 (some .boolean), Cond.methodLink RX18 141 yX18_fails, Cond.instanceMethod yX18_fails, Cond.selects RX18 yX18_fails yX18_fails, Cond.code yX18_fails cX18_fails 2 (some .int), Cond.methodLink RX18 181 yX18_tries, Cond.instanceMethod yX18_tries, Cond.selects RX18 yX18_tries yX18_tries, Cond.code yX18_tries cX18_tries 3 none, Cond.fieldLink RX18 48 "ModedMillModel" "variableType" "[I", Cond.methodLink RX18 185 yX18_fits, Cond.instanceMethod yX18_fits, Cond.selects RX18 yX18_fits yX18_fits, Cond.code yX18_fits cX18_fits 3 (some .boolean)]
def wsX18_addSame_r2 : List Cond := [Cond.methodLink RX18 189 yX18_adds, Cond.instanceMethod yX18_adds, Cond.selects RX18 yX18_adds yX18_adds, Cond.code yX18_adds cX18_adds 9 (some .int), Cond.fieldLink RX18 45 "ModedMillModel" "goals" "[I", Cond.fieldLink RX18 137 "ModedMillModel" "isCompiled" "Z", Cond.fieldLink RX18 51 "ModedMillModel" "goalKind" "[C", Cond.fieldLink RX18 54 "ModedMillModel" "goalWhat" "[I", Cond.fieldLink RX18 57 "ModedMillModel" "goalVariable" "[I"]
def wsX18_addSame : List Cond := .code yX18_addSame cX18_addSame 5 (some .int) :: ((wsX18_addSame_r1 ++ wsX18_addSame_r2) ++ wsX180 ++ (vx_atM "java/lang/ArrayIndexOutOfBoundsException" ["java/lang/IndexOutOfBoundsException", "java/lang/RuntimeException", "java/lang/Exception"]).filter goodWord)
def wsX18_addCall_r1 : List Cond := [Cond.fieldLink RX18 130 "ModedMillModel" "code" "I", Cond.fieldLink RX18 26 "ModedMillModel" "arity" "[I", Cond.fieldLink RX18 29 "ModedMillModel" "argumentType" "[I", Cond.methodLink RX18 178 yX18_isClause, Cond.instanceMethod yX18_isClause, Cond.selects RX18 yX18_isClause yX18_isClause, Cond.initialized RX18, Cond.code yX18_isClause cX18_isClause 2 (some .boolean), Cond.fieldLink RX18 175 "ModedMillModel" "clauses" "I", Cond.methodLink RX18 145 yX18_in, Cond.static yX18_in, Cond.code yX18_in cX18_in 3 (some .boolean), Cond.methodLink RX18 172 yX18_isPredicate, Cond.instanceMethod yX18_isPredicate, Cond.selects RX18 yX18_isPredicate yX18_isPredicate, Cond.code yX18_isPredicate cX18_isPredicate 2 (some .boolean), Cond.fieldLink RX18 169 "ModedMillModel" "predicates" "I", Cond.methodLink RX18 141 yX18_fails, Cond.instanceMethod yX18_fails, Cond.selects RX18 yX18_fails yX18_fails, Cond.code yX18_fails cX18_fails 2 (some .int), Cond.methodLink RX18 181 yX18_tries, Cond.instanceMethod yX18_tries, Cond.selects RX18 yX18_tries yX18_tries]
def wsX18_addCall_r2 : List Cond := [Cond.code yX18_tries cX18_tries 3 none, Cond.fieldLink RX18 88 "ModedMillModel" "tried" "[I", Cond.fieldLink RX18 48 "ModedMillModel" "variableType" "[I", Cond.methodLink RX18 185 yX18_fits, Cond.instanceMethod yX18_fits, Cond.selects RX18 yX18_fits yX18_fits, Cond.code yX18_fits cX18_fits 3 (some .boolean), Cond.methodLink RX18 189 yX18_adds, Cond.instanceMethod yX18_adds, Cond.selects RX18 yX18_adds yX18_adds, Cond.code yX18_adds cX18_adds 9 (some .int), Cond.fieldLink RX18 45 "ModedMillModel" "goals" "[I", Cond.fieldLink RX18 137 "ModedMillModel" "isCompiled" "Z", Cond.fieldLink RX18 51 "ModedMillModel" "goalKind" "[C", Cond.fieldLink RX18 54 "ModedMillModel" "goalWhat" "[I", Cond.fieldLink RX18 57 "ModedMillModel" "goalVariable" "[I"]
def wsX18_addCall : List Cond := .code yX18_addCall cX18_addCall 8 (some .int) :: ((wsX18_addCall_r1 ++ wsX18_addCall_r2) ++ wsX180 ++ (vx_atM "java/lang/ArrayIndexOutOfBoundsException" ["java/lang/IndexOutOfBoundsException", "java/lang/RuntimeException", "java/lang/Exception"]).filter goodWord)
def wsX18_orders_r1 : List Cond := [Cond.fieldLink RX18 42 "ModedMillModel" "clauseOf" "[I", Cond.fieldLink RX18 35 "ModedMillModel" "inputs" "[I", Cond.fieldLink RX18 60 "ModedMillModel" "ordered" "[I", Cond.fieldLink RX18 45 "ModedMillModel" "goals" "[I", Cond.fieldLink RX18 51 "ModedMillModel" "goalKind" "[C", Cond.fieldLink RX18 63 "ModedMillModel" "orderGoal" "[I", Cond.fieldLink RX18 66 "ModedMillModel" "orderMode" "[I", Cond.fieldLink RX18 69 "ModedMillModel" "orderKnown" "[I", Cond.fieldLink RX18 26 "ModedMillModel" "arity" "[I", Cond.methodLink RX18 200 yX18_canBeTaken, Cond.instanceMethod yX18_canBeTaken, Cond.selects RX18 yX18_canBeTaken yX18_canBeTaken, Cond.initialized RX18, Cond.code yX18_canBeTaken cX18_canBeTaken 7 (some .boolean), Cond.fieldLink RX18 54 "ModedMillModel" "goalWhat" "[I", Cond.fieldLink RX18 57 "ModedMillModel" "goalVariable" "[I", Cond.methodLink RX18 193 yX18_variables, Cond.instanceMethod yX18_variables, Cond.selects RX18 yX18_variables yX18_variables, Cond.code yX18_variables cX18_variables 5 (some .int), Cond.methodLink RX18 155 yX18_parts, Cond.instanceMethod yX18_parts, Cond.selects RX18 yX18_parts yX18_parts, Cond.code yX18_parts cX18_parts 2 (some .int)]
def wsX18_orders_r2 : List Cond := [Cond.fieldLink RX18 13 "ModedMillModel" "partType" "[I", Cond.methodLink RX18 196 yX18_chosen, Cond.instanceMethod yX18_chosen, Cond.selects RX18 yX18_chosen yX18_chosen, Cond.code yX18_chosen cX18_chosen 7 (some .int), Cond.fieldLink RX18 32 "ModedMillModel" "modes" "[I"]
def wsX18_orders : List Cond := .code yX18_orders cX18_orders 12 (some .boolean) :: ((wsX18_orders_r1 ++ wsX18_orders_r2) ++ wsX180 ++ (vx_atM "java/lang/ArrayIndexOutOfBoundsException" ["java/lang/IndexOutOfBoundsException", "java/lang/RuntimeException", "java/lang/Exception"]).filter goodWord)
def wsX18_orders__r1 : List Cond := [Cond.fieldLink RX18 169 "ModedMillModel" "predicates" "I", Cond.fieldLink RX18 32 "ModedMillModel" "modes" "[I", Cond.fieldLink RX18 175 "ModedMillModel" "clauses" "I", Cond.fieldLink RX18 42 "ModedMillModel" "clauseOf" "[I", Cond.fieldLink RX18 72 "ModedMillModel" "isFaulty" "[Z", Cond.fieldLink RX18 76 "ModedMillModel" "good" "[Z", Cond.fieldLink RX18 79 "ModedMillModel" "canFail" "[Z", Cond.fieldLink RX18 82 "ModedMillModel" "canMore" "[Z", Cond.fieldLink RX18 85 "ModedMillModel" "switches" "[I", Cond.methodLink RX18 221 yX18_orders, Cond.instanceMethod yX18_orders, Cond.selects RX18 yX18_orders yX18_orders, Cond.initialized RX18, Cond.code yX18_orders cX18_orders 12 (some .boolean), Cond.fieldLink RX18 35 "ModedMillModel" "inputs" "[I", Cond.fieldLink RX18 60 "ModedMillModel" "ordered" "[I", Cond.fieldLink RX18 45 "ModedMillModel" "goals" "[I", Cond.fieldLink RX18 51 "ModedMillModel" "goalKind" "[C", Cond.fieldLink RX18 63 "ModedMillModel" "orderGoal" "[I", Cond.fieldLink RX18 66 "ModedMillModel" "orderMode" "[I", Cond.fieldLink RX18 69 "ModedMillModel" "orderKnown" "[I", Cond.fieldLink RX18 26 "ModedMillModel" "arity" "[I", Cond.methodLink RX18 200 yX18_canBeTaken, Cond.instanceMethod yX18_canBeTaken]
def wsX18_orders__r2 : List Cond := [Cond.selects RX18 yX18_canBeTaken yX18_canBeTaken, Cond.code yX18_canBeTaken cX18_canBeTaken 7 (some .boolean), Cond.fieldLink RX18 54 "ModedMillModel" "goalWhat" "[I", Cond.fieldLink RX18 57 "ModedMillModel" "goalVariable" "[I", Cond.methodLink RX18 193 yX18_variables, Cond.instanceMethod yX18_variables, Cond.selects RX18 yX18_variables yX18_variables, Cond.code yX18_variables cX18_variables 5 (some .int), Cond.methodLink RX18 155 yX18_parts, Cond.instanceMethod yX18_parts, Cond.selects RX18 yX18_parts yX18_parts, Cond.code yX18_parts cX18_parts 2 (some .int), Cond.fieldLink RX18 13 "ModedMillModel" "partType" "[I", Cond.methodLink RX18 196 yX18_chosen, Cond.instanceMethod yX18_chosen, Cond.selects RX18 yX18_chosen yX18_chosen, Cond.code yX18_chosen cX18_chosen 7 (some .int), Cond.methodLink RX18 224 yX18_switchFound, Cond.instanceMethod yX18_switchFound, Cond.selects RX18 yX18_switchFound yX18_switchFound, Cond.code yX18_switchFound cX18_switchFound 10 (some .int)]
def wsX18_orders_ : List Cond := .code yX18_orders_ cX18_orders_ 6 none :: ((wsX18_orders__r1 ++ wsX18_orders__r2) ++ wsX180 ++ (vx_atM "java/lang/ArrayIndexOutOfBoundsException" ["java/lang/IndexOutOfBoundsException", "java/lang/RuntimeException", "java/lang/Exception"]).filter goodWord)
def wsX18_compile_r1 : List Cond := [Cond.fieldLink RX18 130 "ModedMillModel" "code" "I", Cond.fieldLink RX18 137 "ModedMillModel" "isCompiled" "Z", Cond.fieldLink RX18 227 "ModedMillModel" "questions" "I", Cond.fieldLink RX18 230 "ModedMillModel" "allSteps" "J", Cond.fieldLink RX18 234 "ModedMillModel" "isAsked" "Z", Cond.fieldLink RX18 32 "ModedMillModel" "modes" "[I", Cond.fieldLink RX18 169 "ModedMillModel" "predicates" "I", Cond.fieldLink RX18 76 "ModedMillModel" "good" "[Z", Cond.methodLink RX18 141 yX18_fails, Cond.instanceMethod yX18_fails, Cond.selects RX18 yX18_fails yX18_fails, Cond.initialized RX18, Cond.code yX18_fails cX18_fails 2 (some .int), Cond.methodLink RX18 237 yX18_orders_, Cond.instanceMethod yX18_orders_, Cond.selects RX18 yX18_orders_ yX18_orders_, Cond.code yX18_orders_ cX18_orders_ 6 none, Cond.fieldLink RX18 175 "ModedMillModel" "clauses" "I", Cond.fieldLink RX18 42 "ModedMillModel" "clauseOf" "[I", Cond.fieldLink RX18 72 "ModedMillModel" "isFaulty" "[Z", Cond.fieldLink RX18 79 "ModedMillModel" "canFail" "[Z", Cond.fieldLink RX18 82 "ModedMillModel" "canMore" "[Z", Cond.fieldLink RX18 85 "ModedMillModel" "switches" "[I", Cond.methodLink RX18 221 yX18_orders]
def wsX18_compile_r2 : List Cond := [Cond.instanceMethod yX18_orders, Cond.selects RX18 yX18_orders yX18_orders, Cond.code yX18_orders cX18_orders 12 (some .boolean), Cond.fieldLink RX18 35 "ModedMillModel" "inputs" "[I", Cond.fieldLink RX18 60 "ModedMillModel" "ordered" "[I", Cond.fieldLink RX18 45 "ModedMillModel" "goals" "[I", Cond.fieldLink RX18 51 "ModedMillModel" "goalKind" "[C", Cond.fieldLink RX18 63 "ModedMillModel" "orderGoal" "[I", Cond.fieldLink RX18 66 "ModedMillModel" "orderMode" "[I", Cond.fieldLink RX18 69 "ModedMillModel" "orderKnown" "[I", Cond.fieldLink RX18 26 "ModedMillModel" "arity" "[I", Cond.methodLink RX18 200 yX18_canBeTaken, Cond.instanceMethod yX18_canBeTaken, Cond.selects RX18 yX18_canBeTaken yX18_canBeTaken, Cond.code yX18_canBeTaken cX18_canBeTaken 7 (some .boolean), Cond.fieldLink RX18 54 "ModedMillModel" "goalWhat" "[I", Cond.fieldLink RX18 57 "ModedMillModel" "goalVariable" "[I", Cond.methodLink RX18 193 yX18_variables, Cond.instanceMethod yX18_variables, Cond.selects RX18 yX18_variables yX18_variables, Cond.code yX18_variables cX18_variables 5 (some .int), Cond.methodLink RX18 155 yX18_parts, Cond.instanceMethod yX18_parts, Cond.selects RX18 yX18_parts yX18_parts]
def wsX18_compile_r3 : List Cond := [Cond.code yX18_parts cX18_parts 2 (some .int), Cond.fieldLink RX18 13 "ModedMillModel" "partType" "[I", Cond.methodLink RX18 196 yX18_chosen, Cond.instanceMethod yX18_chosen, Cond.selects RX18 yX18_chosen yX18_chosen, Cond.code yX18_chosen cX18_chosen 7 (some .int), Cond.methodLink RX18 224 yX18_switchFound, Cond.instanceMethod yX18_switchFound, Cond.selects RX18 yX18_switchFound yX18_switchFound, Cond.code yX18_switchFound cX18_switchFound 10 (some .int), Cond.methodLink RX18 239 yX18_hasBad, Cond.instanceMethod yX18_hasBad, Cond.selects RX18 yX18_hasBad yX18_hasBad, Cond.code yX18_hasBad cX18_hasBad 7 (some .boolean), Cond.methodLink RX18 242 yX18_looksAgain, Cond.instanceMethod yX18_looksAgain, Cond.selects RX18 yX18_looksAgain yX18_looksAgain, Cond.code yX18_looksAgain cX18_looksAgain 14 (some .boolean), Cond.fieldLink RX18 29 "ModedMillModel" "argumentType" "[I", Cond.fieldLink RX18 149 "ModedMillModel" "constructors" "I", Cond.fieldLink RX18 7 "ModedMillModel" "typeOf" "[I", Cond.methodLink RX18 214 yX18_clauseCanFail, Cond.instanceMethod yX18_clauseCanFail, Cond.selects RX18 yX18_clauseCanFail yX18_clauseCanFail]
def wsX18_compile_r4 : List Cond := [Cond.code yX18_clauseCanFail cX18_clauseCanFail 6 (some .boolean), Cond.methodLink RX18 210 yX18_goalCanFail, Cond.instanceMethod yX18_goalCanFail, Cond.selects RX18 yX18_goalCanFail yX18_goalCanFail, Cond.code yX18_goalCanFail cX18_goalCanFail 12 (some .boolean), Cond.methodLink RX18 203 yX18_isMet, Cond.instanceMethod yX18_isMet, Cond.selects RX18 yX18_isMet yX18_isMet, Cond.code yX18_isMet cX18_isMet 8 (some .boolean), Cond.methodLink RX18 207 yX18_outputIsMet, Cond.instanceMethod yX18_outputIsMet, Cond.selects RX18 yX18_outputIsMet yX18_outputIsMet, Cond.code yX18_outputIsMet cX18_outputIsMet 8 (some .boolean), Cond.methodLink RX18 218 yX18_clauseCanMore, Cond.instanceMethod yX18_clauseCanMore, Cond.selects RX18 yX18_clauseCanMore yX18_clauseCanMore, Cond.code yX18_clauseCanMore cX18_clauseCanMore 7 (some .boolean), Cond.methodLink RX18 245 yX18_faultOf, Cond.instanceMethod yX18_faultOf, Cond.selects RX18 yX18_faultOf yX18_faultOf, Cond.code yX18_faultOf cX18_faultOf 4 (some .char), Cond.fieldLink RX18 38 "ModedMillModel" "promises" "[C"]
def wsX18_compile : List Cond := .code yX18_compile cX18_compile 4 (some .int) :: ((wsX18_compile_r1 ++ (wsX18_compile_r2 ++ (wsX18_compile_r3 ++ wsX18_compile_r4))) ++ wsX180 ++ (vx_atM "java/lang/ArrayIndexOutOfBoundsException" ["java/lang/IndexOutOfBoundsException", "java/lang/RuntimeException", "java/lang/Exception"]).filter goodWord)
def wsX18_open : List Cond := .code yX18_open cX18_open 2 (some .int) :: ([.fieldLink RX18 130 "ModedMillModel" "code" "I", .fieldLink RX18 137 "ModedMillModel" "isCompiled" "Z", .fieldLink RX18 234 "ModedMillModel" "isAsked" "Z", .fieldLink RX18 227 "ModedMillModel" "questions" "I", .fieldLink RX18 230 "ModedMillModel" "allSteps" "J", .methodLink RX18 141 yX18_fails, .instanceMethod yX18_fails, .selects RX18 yX18_fails yX18_fails, .initialized RX18, .code yX18_fails cX18_fails 2 (some .int)] ++ wsX180)
def wsX18_looks : List Cond := .code yX18_looks cX18_looks 3 (some .boolean) :: ([.fieldLink RX18 32 "ModedMillModel" "modes" "[I", .fieldLink RX18 137 "ModedMillModel" "isCompiled" "Z", .fieldLink RX18 130 "ModedMillModel" "code" "I", .methodLink RX18 172 yX18_isPredicate, .instanceMethod yX18_isPredicate, .selects RX18 yX18_isPredicate yX18_isPredicate, .initialized RX18, .code yX18_isPredicate cX18_isPredicate 2 (some .boolean), .fieldLink RX18 169 "ModedMillModel" "predicates" "I", .methodLink RX18 145 yX18_in, .static yX18_in, .code yX18_in cX18_in 3 (some .boolean)] ++ wsX180 ++ (vx_atM "java/lang/ArrayIndexOutOfBoundsException" ["java/lang/IndexOutOfBoundsException", "java/lang/RuntimeException", "java/lang/Exception"]).filter goodWord)
def wsX18_fault_r1 : List Cond := [Cond.methodLink RX18 249 yX18_looks, Cond.instanceMethod yX18_looks, Cond.selects RX18 yX18_looks yX18_looks, Cond.initialized RX18, Cond.code yX18_looks cX18_looks 3 (some .boolean), Cond.fieldLink RX18 32 "ModedMillModel" "modes" "[I", Cond.fieldLink RX18 137 "ModedMillModel" "isCompiled" "Z", Cond.fieldLink RX18 130 "ModedMillModel" "code" "I", Cond.methodLink RX18 172 yX18_isPredicate, Cond.instanceMethod yX18_isPredicate, Cond.selects RX18 yX18_isPredicate yX18_isPredicate, Cond.code yX18_isPredicate cX18_isPredicate 2 (some .boolean), Cond.fieldLink RX18 169 "ModedMillModel" "predicates" "I", Cond.methodLink RX18 145 yX18_in, Cond.static yX18_in, Cond.code yX18_in cX18_in 3 (some .boolean), Cond.methodLink RX18 245 yX18_faultOf, Cond.instanceMethod yX18_faultOf, Cond.selects RX18 yX18_faultOf yX18_faultOf, Cond.code yX18_faultOf cX18_faultOf 4 (some .char), Cond.fieldLink RX18 72 "ModedMillModel" "isFaulty" "[Z", Cond.fieldLink RX18 38 "ModedMillModel" "promises" "[C", Cond.fieldLink RX18 79 "ModedMillModel" "canFail" "[Z", Cond.fieldLink RX18 82 "ModedMillModel" "canMore" "[Z"]
def wsX18_fault_r2 : List Cond := [Cond.fieldLink RX18 76 "ModedMillModel" "good" "[Z"]
def wsX18_fault : List Cond := .code yX18_fault cX18_fault 3 (some .char) :: ((wsX18_fault_r1 ++ wsX18_fault_r2) ++ wsX180 ++ (vx_atM "java/lang/ArrayIndexOutOfBoundsException" ["java/lang/IndexOutOfBoundsException", "java/lang/RuntimeException", "java/lang/Exception"]).filter goodWord)
def wsX18_isGood : List Cond := .code yX18_isGood cX18_isGood 3 (some .boolean) :: ([.fieldLink RX18 76 "ModedMillModel" "good" "[Z", .methodLink RX18 249 yX18_looks, .instanceMethod yX18_looks, .selects RX18 yX18_looks yX18_looks, .initialized RX18, .code yX18_looks cX18_looks 3 (some .boolean), .fieldLink RX18 32 "ModedMillModel" "modes" "[I", .fieldLink RX18 137 "ModedMillModel" "isCompiled" "Z", .fieldLink RX18 130 "ModedMillModel" "code" "I", .methodLink RX18 172 yX18_isPredicate, .instanceMethod yX18_isPredicate, .selects RX18 yX18_isPredicate yX18_isPredicate, .code yX18_isPredicate cX18_isPredicate 2 (some .boolean), .fieldLink RX18 169 "ModedMillModel" "predicates" "I", .methodLink RX18 145 yX18_in, .static yX18_in, .code yX18_in cX18_in 3 (some .boolean)] ++ wsX180 ++ (vx_atM "java/lang/ArrayIndexOutOfBoundsException" ["java/lang/IndexOutOfBoundsException", "java/lang/RuntimeException", "java/lang/Exception"]).filter goodWord)
def wsX18_found : List Cond := .code yX18_found cX18_found 4 (some .char) :: ([.fieldLink RX18 76 "ModedMillModel" "good" "[Z", .fieldLink RX18 130 "ModedMillModel" "code" "I", .fieldLink RX18 79 "ModedMillModel" "canFail" "[Z", .fieldLink RX18 82 "ModedMillModel" "canMore" "[Z", .methodLink RX18 249 yX18_looks, .instanceMethod yX18_looks, .selects RX18 yX18_looks yX18_looks, .initialized RX18, .code yX18_looks cX18_looks 3 (some .boolean), .fieldLink RX18 32 "ModedMillModel" "modes" "[I", .fieldLink RX18 137 "ModedMillModel" "isCompiled" "Z", .methodLink RX18 172 yX18_isPredicate, .instanceMethod yX18_isPredicate, .selects RX18 yX18_isPredicate yX18_isPredicate, .code yX18_isPredicate cX18_isPredicate 2 (some .boolean), .fieldLink RX18 169 "ModedMillModel" "predicates" "I", .methodLink RX18 145 yX18_in, .static yX18_in, .code yX18_in cX18_in 3 (some .boolean)] ++ wsX180 ++ (vx_atM "java/lang/ArrayIndexOutOfBoundsException" ["java/lang/IndexOutOfBoundsException", "java/lang/RuntimeException", "java/lang/Exception"]).filter goodWord)
def wsX18_switchOf : List Cond := .code yX18_switchOf cX18_switchOf 3 (some .int) :: ([.fieldLink RX18 72 "ModedMillModel" "isFaulty" "[Z", .fieldLink RX18 85 "ModedMillModel" "switches" "[I", .methodLink RX18 249 yX18_looks, .instanceMethod yX18_looks, .selects RX18 yX18_looks yX18_looks, .initialized RX18, .code yX18_looks cX18_looks 3 (some .boolean), .fieldLink RX18 32 "ModedMillModel" "modes" "[I", .fieldLink RX18 137 "ModedMillModel" "isCompiled" "Z", .fieldLink RX18 130 "ModedMillModel" "code" "I", .methodLink RX18 172 yX18_isPredicate, .instanceMethod yX18_isPredicate, .selects RX18 yX18_isPredicate yX18_isPredicate, .code yX18_isPredicate cX18_isPredicate 2 (some .boolean), .fieldLink RX18 169 "ModedMillModel" "predicates" "I", .methodLink RX18 145 yX18_in, .static yX18_in, .code yX18_in cX18_in 3 (some .boolean), .methodLink RX18 141 yX18_fails, .instanceMethod yX18_fails, .selects RX18 yX18_fails yX18_fails, .code yX18_fails cX18_fails 2 (some .int)] ++ wsX180 ++ (vx_atM "java/lang/ArrayIndexOutOfBoundsException" ["java/lang/IndexOutOfBoundsException", "java/lang/RuntimeException", "java/lang/Exception"]).filter goodWord)
def wsX18_spot : List Cond := .code yX18_spot cX18_spot 4 (some .int) :: ([.fieldLink RX18 32 "ModedMillModel" "modes" "[I", .fieldLink RX18 42 "ModedMillModel" "clauseOf" "[I", .fieldLink RX18 137 "ModedMillModel" "isCompiled" "Z", .fieldLink RX18 60 "ModedMillModel" "ordered" "[I", .fieldLink RX18 130 "ModedMillModel" "code" "I", .methodLink RX18 178 yX18_isClause, .instanceMethod yX18_isClause, .selects RX18 yX18_isClause yX18_isClause, .initialized RX18, .code yX18_isClause cX18_isClause 2 (some .boolean), .fieldLink RX18 175 "ModedMillModel" "clauses" "I", .methodLink RX18 145 yX18_in, .static yX18_in, .code yX18_in cX18_in 3 (some .boolean)] ++ wsX180 ++ (vx_atM "java/lang/ArrayIndexOutOfBoundsException" ["java/lang/IndexOutOfBoundsException", "java/lang/RuntimeException", "java/lang/Exception"]).filter goodWord)
def wsX18_goalAt : List Cond := .code yX18_goalAt cX18_goalAt 5 (some .int) :: ([.fieldLink RX18 63 "ModedMillModel" "orderGoal" "[I", .methodLink RX18 252 yX18_spot, .instanceMethod yX18_spot, .selects RX18 yX18_spot yX18_spot, .initialized RX18, .code yX18_spot cX18_spot 4 (some .int), .fieldLink RX18 32 "ModedMillModel" "modes" "[I", .fieldLink RX18 42 "ModedMillModel" "clauseOf" "[I", .fieldLink RX18 137 "ModedMillModel" "isCompiled" "Z", .fieldLink RX18 60 "ModedMillModel" "ordered" "[I", .fieldLink RX18 130 "ModedMillModel" "code" "I", .methodLink RX18 178 yX18_isClause, .instanceMethod yX18_isClause, .selects RX18 yX18_isClause yX18_isClause, .code yX18_isClause cX18_isClause 2 (some .boolean), .fieldLink RX18 175 "ModedMillModel" "clauses" "I", .methodLink RX18 145 yX18_in, .static yX18_in, .code yX18_in cX18_in 3 (some .boolean)] ++ wsX180 ++ (vx_atM "java/lang/ArrayIndexOutOfBoundsException" ["java/lang/IndexOutOfBoundsException", "java/lang/RuntimeException", "java/lang/Exception"]).filter goodWord)
def wsX18_chosenAt : List Cond := .code yX18_chosenAt cX18_chosenAt 5 (some .int) :: ([.fieldLink RX18 66 "ModedMillModel" "orderMode" "[I", .methodLink RX18 252 yX18_spot, .instanceMethod yX18_spot, .selects RX18 yX18_spot yX18_spot, .initialized RX18, .code yX18_spot cX18_spot 4 (some .int), .fieldLink RX18 32 "ModedMillModel" "modes" "[I", .fieldLink RX18 42 "ModedMillModel" "clauseOf" "[I", .fieldLink RX18 137 "ModedMillModel" "isCompiled" "Z", .fieldLink RX18 60 "ModedMillModel" "ordered" "[I", .fieldLink RX18 130 "ModedMillModel" "code" "I", .methodLink RX18 178 yX18_isClause, .instanceMethod yX18_isClause, .selects RX18 yX18_isClause yX18_isClause, .code yX18_isClause cX18_isClause 2 (some .boolean), .fieldLink RX18 175 "ModedMillModel" "clauses" "I", .methodLink RX18 145 yX18_in, .static yX18_in, .code yX18_in cX18_in 3 (some .boolean), .methodLink RX18 141 yX18_fails, .instanceMethod yX18_fails, .selects RX18 yX18_fails yX18_fails, .code yX18_fails cX18_fails 2 (some .int)] ++ wsX180 ++ (vx_atM "java/lang/ArrayIndexOutOfBoundsException" ["java/lang/IndexOutOfBoundsException", "java/lang/RuntimeException", "java/lang/Exception"]).filter goodWord)
def wsX18_isInput : List Cond := .code yX18_isInput cX18_isInput 4 (some .boolean) :: ([.fieldLink RX18 26 "ModedMillModel" "arity" "[I", .fieldLink RX18 35 "ModedMillModel" "inputs" "[I"] ++ wsX180 ++ (vx_atM "java/lang/ArrayIndexOutOfBoundsException" ["java/lang/IndexOutOfBoundsException", "java/lang/RuntimeException", "java/lang/Exception"]).filter goodWord)
def wsX18_ask_r1 : List Cond := [Cond.fieldLink RX18 130 "ModedMillModel" "code" "I", Cond.fieldLink RX18 32 "ModedMillModel" "modes" "[I", Cond.arrayClass .int, Cond.fieldLink RX18 29 "ModedMillModel" "argumentType" "[I", Cond.fieldLink RX18 137 "ModedMillModel" "isCompiled" "Z", Cond.fieldLink RX18 76 "ModedMillModel" "good" "[Z", Cond.fieldLink RX18 152 "ModedMillModel" "terms" "I", Cond.fieldLink RX18 274 "ModedMillModel" "isOver" "Z", Cond.fieldLink RX18 353 "ModedMillModel" "isFull" "Z", Cond.fieldLink RX18 350 "ModedMillModel" "runAnswers" "I", Cond.fieldLink RX18 356 "ModedMillModel" "runSteps" "I", Cond.fieldLink RX18 305 "ModedMillModel" "runChoices" "I", Cond.fieldLink RX18 281 "ModedMillModel" "runDeepest" "I", Cond.fieldLink RX18 255 "ModedMillModel" "runRecords" "I", Cond.fieldLink RX18 261 "ModedMillModel" "bound" "I", Cond.fieldLink RX18 295 "ModedMillModel" "top" "LModedMillModel$Choice;", Cond.fieldLink RX18 234 "ModedMillModel" "isAsked" "Z", Cond.fieldLink RX18 227 "ModedMillModel" "questions" "I", Cond.fieldLink RX18 400 "ModedMillModel" "askedPredicate" "I", Cond.fieldLink RX18 403 "ModedMillModel" "askedMode" "I", Cond.fieldLink RX18 406 "ModedMillModel" "ending" "C", Cond.fieldLink RX18 410 "ModedMillModel" "answers" "I", Cond.fieldLink RX18 412 "ModedMillModel" "steps" "I", Cond.fieldLink RX18 230 "ModedMillModel" "allSteps" "J"]
def wsX18_ask_r2 : List Cond := [Cond.fieldLink RX18 415 "ModedMillModel" "choicePoints" "I", Cond.fieldLink RX18 418 "ModedMillModel" "deepest" "I", Cond.fieldLink RX18 421 "ModedMillModel" "records" "I", Cond.fieldLink RX18 91 "ModedMillModel" "asked" "[I", Cond.fieldLink RX18 94 "ModedMillModel" "answer" "[I", Cond.fieldLink RX18 103 "ModedMillModel" "runAnswer" "[I", Cond.fieldLink RX18 97 "ModedMillModel" "recordKind" "[C", Cond.fieldLink RX18 106 "ModedMillModel" "runKind" "[C", Cond.fieldLink RX18 100 "ModedMillModel" "recordWhere" "[I", Cond.fieldLink RX18 109 "ModedMillModel" "runWhere" "[I", Cond.methodLink RX18 172 yX18_isPredicate, Cond.instanceMethod yX18_isPredicate, Cond.selects RX18 yX18_isPredicate yX18_isPredicate, Cond.initialized RX18, Cond.code yX18_isPredicate cX18_isPredicate 2 (some .boolean), Cond.fieldLink RX18 169 "ModedMillModel" "predicates" "I", Cond.methodLink RX18 145 yX18_in, Cond.static yX18_in, Cond.code yX18_in cX18_in 3 (some .boolean), Cond.methodLink RX18 141 yX18_fails, Cond.instanceMethod yX18_fails, Cond.selects RX18 yX18_fails yX18_fails, Cond.code yX18_fails cX18_fails 2 (some .int), Cond.methodLink RX18 397 yX18_isInput]
def wsX18_ask_r3 : List Cond := [Cond.instanceMethod yX18_isInput, Cond.selects RX18 yX18_isInput yX18_isInput, Cond.code yX18_isInput cX18_isInput 4 (some .boolean), Cond.fieldLink RX18 26 "ModedMillModel" "arity" "[I", Cond.fieldLink RX18 35 "ModedMillModel" "inputs" "[I", Cond.methodLink RX18 158 yX18_isTerm, Cond.instanceMethod yX18_isTerm, Cond.selects RX18 yX18_isTerm yX18_isTerm, Cond.code yX18_isTerm cX18_isTerm 2 (some .boolean), Cond.methodLink RX18 162 yX18_typeOfTerm, Cond.instanceMethod yX18_typeOfTerm, Cond.selects RX18 yX18_typeOfTerm yX18_typeOfTerm, Cond.code yX18_typeOfTerm cX18_typeOfTerm 2 (some .int), Cond.fieldLink RX18 7 "ModedMillModel" "typeOf" "[I", Cond.fieldLink RX18 16 "ModedMillModel" "termConstructor" "[I", Cond.methodLink RX18 376 yX18_runs, Cond.instanceMethod yX18_runs, Cond.selects RX18 yX18_runs yX18_runs, Cond.code yX18_runs cX18_runs 8 (some .boolean), Cond.fieldLink RX18 271 "ModedMillModel" "place" "I", Cond.fieldLink RX18 60 "ModedMillModel" "ordered" "[I", Cond.fieldLink RX18 267 "ModedMillModel" "now" "LModedMillModel$Frame;", Cond.fieldLink RX18 42 "ModedMillModel" "clauseOf" "[I", Cond.methodLink RX18 363 yX18_calls]
def wsX18_ask_r4 : List Cond := [Cond.instanceMethod yX18_calls, Cond.selects RX18 yX18_calls yX18_calls, Cond.code yX18_calls cX18_calls 9 (some .boolean), Cond.methodLink RX18 284 Lib.Math.max.name, Cond.static Lib.Math.max.name, Cond.initialized "java/lang/Math", Cond.code Lib.Math.max.name Lib.Math.max.code 2 (some .int), Cond.classLink RX18 293 RX13, Cond.instantiable RX13 9, Cond.initialized RX13, Cond.methodLink RX18 277 yX18_puts, Cond.instanceMethod yX18_puts, Cond.selects RX18 yX18_puts yX18_puts, Cond.code yX18_puts cX18_puts 4 none, Cond.methodLink RX18 289 yX18_candidate, Cond.instanceMethod yX18_candidate, Cond.selects RX18 yX18_candidate yX18_candidate, Cond.code yX18_candidate cX18_candidate 8 (some .int), Cond.fieldLink RX18 85 "ModedMillModel" "switches" "[I", Cond.fieldLink RX18 175 "ModedMillModel" "clauses" "I", Cond.fieldLink RX18 63 "ModedMillModel" "orderGoal" "[I", Cond.fieldLink RX18 54 "ModedMillModel" "goalWhat" "[I", Cond.methodLink RX18 299 yX13_init, Cond.instanceMethod yX13_init]
def wsX18_ask_r5 : List Cond := [Cond.code yX13_init cX13_init 9 none, Cond.methodLink RX13 1 objectInit, Cond.instanceMethod objectInit, Cond.code objectInit ⟨#[0xb1]⟩ 1 none, Cond.fieldLink RX13 7 "ModedMillModel$Choice" "predicate" "I", Cond.fieldLink RX13 13 "ModedMillModel$Choice" "mode" "I", Cond.fieldLink RX13 16 "ModedMillModel$Choice" "arguments" "[I", Cond.fieldLink RX13 20 "ModedMillModel$Choice" "caller" "LModedMillModel$Frame;", Cond.fieldLink RX13 24 "ModedMillModel$Choice" "callerPlace" "I", Cond.fieldLink RX13 27 "ModedMillModel$Choice" "depth" "I", Cond.fieldLink RX13 30 "ModedMillModel$Choice" "bound" "I", Cond.fieldLink RX13 33 "ModedMillModel$Choice" "below" "LModedMillModel$Choice;", Cond.methodLink RX18 308 yX18_tries_, Cond.instanceMethod yX18_tries_, Cond.selects RX18 yX18_tries_ yX18_tries_, Cond.code yX18_tries_ cX18_tries_ 9 none, Cond.classLink RX18 112 RX14, Cond.instantiable RX14 6, Cond.initialized RX14, Cond.methodLink RX18 264 yX14_init, Cond.instanceMethod yX14_init, Cond.code yX14_init cX14_init 7 none, Cond.methodLink RX14 3 objectInit, Cond.fieldLink RX14 9 "ModedMillModel$Frame" "values" "[I"]
def wsX18_ask_r6 : List Cond := [Cond.fieldLink RX14 15 "ModedMillModel$Frame" "clause" "I", Cond.fieldLink RX14 19 "ModedMillModel$Frame" "mode" "I", Cond.fieldLink RX14 22 "ModedMillModel$Frame" "caller" "LModedMillModel$Frame;", Cond.fieldLink RX14 26 "ModedMillModel$Frame" "callerPlace" "I", Cond.fieldLink RX14 29 "ModedMillModel$Frame" "depth" "I", Cond.methodLink RX18 380 yX18_retries, Cond.instanceMethod yX18_retries, Cond.selects RX18 yX18_retries yX18_retries, Cond.code yX18_retries cX18_retries 3 none, Cond.methodLink RX18 312 yX18_unbinds, Cond.instanceMethod yX18_unbinds, Cond.selects RX18 yX18_unbinds yX18_unbinds, Cond.code yX18_unbinds cX18_unbinds 2 none, Cond.fieldLink RX18 114 "ModedMillModel" "boundFrame" "[LModedMillModel$Frame;", Cond.fieldLink RX18 118 "ModedMillModel" "boundVariable" "[I", Cond.methodLink RX18 383 yX18_begins, Cond.instanceMethod yX18_begins, Cond.selects RX18 yX18_begins yX18_begins, Cond.methodLink RX18 387 yX18_handsOver, Cond.instanceMethod yX18_handsOver, Cond.selects RX18 yX18_handsOver yX18_handsOver, Cond.code yX18_handsOver cX18_handsOver 7 (some .boolean), Cond.fieldLink RX18 57 "ModedMillModel" "goalVariable" "[I", Cond.methodLink RX18 346 yX18_gives]
def wsX18_ask_r7 : List Cond := [Cond.instanceMethod yX18_gives, Cond.selects RX18 yX18_gives yX18_gives, Cond.code yX18_gives cX18_gives 4 (some .boolean), Cond.methodLink RX18 336 yX18_binds, Cond.instanceMethod yX18_binds, Cond.selects RX18 yX18_binds yX18_binds, Cond.code yX18_binds cX18_binds 4 none, Cond.methodLink RX18 390 yX18_answers, Cond.instanceMethod yX18_answers, Cond.selects RX18 yX18_answers yX18_answers, Cond.code yX18_answers cX18_answers 2 none, Cond.methodLink RX18 393 yX18_isWanted, Cond.instanceMethod yX18_isWanted, Cond.selects RX18 yX18_isWanted yX18_isWanted, Cond.code yX18_isWanted cX18_isWanted 5 (some .boolean), Cond.code yX18_begins cX18_begins 4 (some .boolean), Cond.fieldLink RX18 51 "ModedMillModel" "goalKind" "[C", Cond.fieldLink RX18 66 "ModedMillModel" "orderMode" "[I", Cond.methodLink RX18 359 yX18_arguments, Cond.instanceMethod yX18_arguments, Cond.selects RX18 yX18_arguments yX18_arguments, Cond.code yX18_arguments cX18_arguments 6 (some (.array .int)), Cond.methodLink RX18 367 yX18_builds, Cond.instanceMethod yX18_builds]
def wsX18_ask_r8 : List Cond := [Cond.selects RX18 yX18_builds yX18_builds, Cond.code yX18_builds cX18_builds 9 (some .boolean), Cond.fieldLink RX18 19 "ModedMillModel" "termPart" "[I", Cond.methodLink RX18 155 yX18_parts, Cond.instanceMethod yX18_parts, Cond.selects RX18 yX18_parts yX18_parts, Cond.code yX18_parts cX18_parts 2 (some .int), Cond.fieldLink RX18 13 "ModedMillModel" "partType" "[I", Cond.methodLink RX18 165 yX18_numbered, Cond.instanceMethod yX18_numbered, Cond.selects RX18 yX18_numbered yX18_numbered, Cond.code yX18_numbered cX18_numbered 5 (some .int), Cond.fieldLink RX18 22 "ModedMillModel" "termSize" "[J", Cond.methodLink RX18 370 yX18_sames, Cond.instanceMethod yX18_sames, Cond.selects RX18 yX18_sames yX18_sames, Cond.code yX18_sames cX18_sames 4 (some .boolean), Cond.methodLink RX18 373 yX18_denied, Cond.instanceMethod yX18_denied, Cond.selects RX18 yX18_denied yX18_denied, Cond.code yX18_denied cX18_denied 8 (some .boolean)]
def wsX18_ask : List Cond := .code yX18_ask cX18_ask 11 (some .int) :: ((wsX18_ask_r1 ++ (wsX18_ask_r2 ++ (wsX18_ask_r3 ++ (wsX18_ask_r4 ++ (wsX18_ask_r5 ++ (wsX18_ask_r6 ++ (wsX18_ask_r7 ++ wsX18_ask_r8))))))) ++ wsX180 ++ wsX140 ++ wsX130 ++ (vx_atM "java/lang/ArrayIndexOutOfBoundsException" ["java/lang/IndexOutOfBoundsException", "java/lang/RuntimeException", "java/lang/Exception"]).filter goodWord)
def wsX18_wasAsked : List Cond := .code yX18_wasAsked cX18_wasAsked 1 (some .boolean) :: ([.fieldLink RX18 234 "ModedMillModel" "isAsked" "Z", .fieldLink RX18 130 "ModedMillModel" "code" "I"] ++ wsX180)
def wsX18_ending : List Cond := .code yX18_ending cX18_ending 1 (some .char) :: ([.fieldLink RX18 406 "ModedMillModel" "ending" "C", .methodLink RX18 424 yX18_wasAsked, .instanceMethod yX18_wasAsked, .selects RX18 yX18_wasAsked yX18_wasAsked, .initialized RX18, .code yX18_wasAsked cX18_wasAsked 1 (some .boolean), .fieldLink RX18 234 "ModedMillModel" "isAsked" "Z", .fieldLink RX18 130 "ModedMillModel" "code" "I"] ++ wsX180)
def wsX18_answerAt : List Cond := .code yX18_answerAt cX18_answerAt 3 (some .int) :: ([.fieldLink RX18 410 "ModedMillModel" "answers" "I", .fieldLink RX18 26 "ModedMillModel" "arity" "[I", .fieldLink RX18 400 "ModedMillModel" "askedPredicate" "I", .fieldLink RX18 94 "ModedMillModel" "answer" "[I", .methodLink RX18 424 yX18_wasAsked, .instanceMethod yX18_wasAsked, .selects RX18 yX18_wasAsked yX18_wasAsked, .initialized RX18, .code yX18_wasAsked cX18_wasAsked 1 (some .boolean), .fieldLink RX18 234 "ModedMillModel" "isAsked" "Z", .fieldLink RX18 130 "ModedMillModel" "code" "I", .methodLink RX18 145 yX18_in, .static yX18_in, .code yX18_in cX18_in 3 (some .boolean), .methodLink RX18 141 yX18_fails, .instanceMethod yX18_fails, .selects RX18 yX18_fails yX18_fails, .code yX18_fails cX18_fails 2 (some .int)] ++ wsX180 ++ (vx_atM "java/lang/ArrayIndexOutOfBoundsException" ["java/lang/IndexOutOfBoundsException", "java/lang/RuntimeException", "java/lang/Exception"]).filter goodWord)
def wsX18_multiplicity : List Cond := .code yX18_multiplicity cX18_multiplicity 6 (some .int) :: ([.fieldLink RX18 410 "ModedMillModel" "answers" "I", .fieldLink RX18 26 "ModedMillModel" "arity" "[I", .fieldLink RX18 400 "ModedMillModel" "askedPredicate" "I", .fieldLink RX18 94 "ModedMillModel" "answer" "[I", .methodLink RX18 424 yX18_wasAsked, .instanceMethod yX18_wasAsked, .selects RX18 yX18_wasAsked yX18_wasAsked, .initialized RX18, .code yX18_wasAsked cX18_wasAsked 1 (some .boolean), .fieldLink RX18 234 "ModedMillModel" "isAsked" "Z", .fieldLink RX18 130 "ModedMillModel" "code" "I", .methodLink RX18 145 yX18_in, .static yX18_in, .code yX18_in cX18_in 3 (some .boolean), .methodLink RX18 141 yX18_fails, .instanceMethod yX18_fails, .selects RX18 yX18_fails yX18_fails, .code yX18_fails cX18_fails 2 (some .int)] ++ wsX180 ++ (vx_atM "java/lang/ArrayIndexOutOfBoundsException" ["java/lang/IndexOutOfBoundsException", "java/lang/RuntimeException", "java/lang/Exception"]).filter goodWord)
def wsX18_steps : List Cond := .code yX18_steps cX18_steps 1 (some .int) :: ([.fieldLink RX18 412 "ModedMillModel" "steps" "I", .methodLink RX18 424 yX18_wasAsked, .instanceMethod yX18_wasAsked, .selects RX18 yX18_wasAsked yX18_wasAsked, .initialized RX18, .code yX18_wasAsked cX18_wasAsked 1 (some .boolean), .fieldLink RX18 234 "ModedMillModel" "isAsked" "Z", .fieldLink RX18 130 "ModedMillModel" "code" "I"] ++ wsX180)
def wsX18_choicePoints : List Cond := .code yX18_choicePoints cX18_choicePoints 1 (some .int) :: ([.fieldLink RX18 415 "ModedMillModel" "choicePoints" "I", .methodLink RX18 424 yX18_wasAsked, .instanceMethod yX18_wasAsked, .selects RX18 yX18_wasAsked yX18_wasAsked, .initialized RX18, .code yX18_wasAsked cX18_wasAsked 1 (some .boolean), .fieldLink RX18 234 "ModedMillModel" "isAsked" "Z", .fieldLink RX18 130 "ModedMillModel" "code" "I"] ++ wsX180)
def wsX18_deepest : List Cond := .code yX18_deepest cX18_deepest 1 (some .int) :: ([.fieldLink RX18 418 "ModedMillModel" "deepest" "I", .methodLink RX18 424 yX18_wasAsked, .instanceMethod yX18_wasAsked, .selects RX18 yX18_wasAsked yX18_wasAsked, .initialized RX18, .code yX18_wasAsked cX18_wasAsked 1 (some .boolean), .fieldLink RX18 234 "ModedMillModel" "isAsked" "Z", .fieldLink RX18 130 "ModedMillModel" "code" "I"] ++ wsX180)
def wsX18_recorded : List Cond := .code yX18_recorded cX18_recorded 1 (some .int) :: ([.fieldLink RX18 421 "ModedMillModel" "records" "I", .methodLink RX18 424 yX18_wasAsked, .instanceMethod yX18_wasAsked, .selects RX18 yX18_wasAsked yX18_wasAsked, .initialized RX18, .code yX18_wasAsked cX18_wasAsked 1 (some .boolean), .fieldLink RX18 234 "ModedMillModel" "isAsked" "Z", .fieldLink RX18 130 "ModedMillModel" "code" "I"] ++ wsX180)
def wsX18_recordAt : List Cond := .code yX18_recordAt cX18_recordAt 2 (some .char) :: ([.fieldLink RX18 421 "ModedMillModel" "records" "I", .fieldLink RX18 130 "ModedMillModel" "code" "I", .fieldLink RX18 97 "ModedMillModel" "recordKind" "[C", .methodLink RX18 424 yX18_wasAsked, .instanceMethod yX18_wasAsked, .selects RX18 yX18_wasAsked yX18_wasAsked, .initialized RX18, .code yX18_wasAsked cX18_wasAsked 1 (some .boolean), .fieldLink RX18 234 "ModedMillModel" "isAsked" "Z", .methodLink RX18 145 yX18_in, .static yX18_in, .code yX18_in cX18_in 3 (some .boolean)] ++ wsX180 ++ (vx_atM "java/lang/ArrayIndexOutOfBoundsException" ["java/lang/IndexOutOfBoundsException", "java/lang/RuntimeException", "java/lang/Exception"]).filter goodWord)
def wsX18_whereAt : List Cond := .code yX18_whereAt cX18_whereAt 2 (some .int) :: ([.fieldLink RX18 421 "ModedMillModel" "records" "I", .fieldLink RX18 100 "ModedMillModel" "recordWhere" "[I", .methodLink RX18 424 yX18_wasAsked, .instanceMethod yX18_wasAsked, .selects RX18 yX18_wasAsked yX18_wasAsked, .initialized RX18, .code yX18_wasAsked cX18_wasAsked 1 (some .boolean), .fieldLink RX18 234 "ModedMillModel" "isAsked" "Z", .fieldLink RX18 130 "ModedMillModel" "code" "I", .methodLink RX18 145 yX18_in, .static yX18_in, .code yX18_in cX18_in 3 (some .boolean), .methodLink RX18 141 yX18_fails, .instanceMethod yX18_fails, .selects RX18 yX18_fails yX18_fails, .code yX18_fails cX18_fails 2 (some .int)] ++ wsX180 ++ (vx_atM "java/lang/ArrayIndexOutOfBoundsException" ["java/lang/IndexOutOfBoundsException", "java/lang/RuntimeException", "java/lang/Exception"]).filter goodWord)
def wsX18_terms : List Cond := .code yX18_terms cX18_terms 1 (some .int) :: ([.fieldLink RX18 130 "ModedMillModel" "code" "I", .fieldLink RX18 152 "ModedMillModel" "terms" "I"] ++ wsX180)
def wsX18_onceShare : List Cond := .code yX18_onceShare cX18_onceShare 5 (some .float) :: ([.fieldLink RX18 137 "ModedMillModel" "isCompiled" "Z", .fieldLink RX18 130 "ModedMillModel" "code" "I", .fieldLink RX18 169 "ModedMillModel" "predicates" "I", .fieldLink RX18 32 "ModedMillModel" "modes" "[I", .fieldLink RX18 76 "ModedMillModel" "good" "[Z", .fieldLink RX18 82 "ModedMillModel" "canMore" "[Z"] ++ wsX180 ++ (vx_atM "java/lang/ArrayIndexOutOfBoundsException" ["java/lang/IndexOutOfBoundsException", "java/lang/RuntimeException", "java/lang/Exception"]).filter goodWord)
def wsX18_meanSteps : List Cond := .code yX18_meanSteps cX18_meanSteps 1 (some .double) :: ([.fieldLink RX18 227 "ModedMillModel" "questions" "I", .fieldLink RX18 130 "ModedMillModel" "code" "I", .fieldLink RX18 230 "ModedMillModel" "allSteps" "J"] ++ wsX180)
def wsX18_answersByBreadth_r1 : List Cond := [Cond.classLink RX18 121 RX17, Cond.fieldLink RX18 152 "ModedMillModel" "terms" "I", Cond.fieldLink RX18 16 "ModedMillModel" "termConstructor" "[I", Cond.fieldLink RX18 19 "ModedMillModel" "termPart" "[I", Cond.instantiable RX17 4, Cond.initialized RX17, Cond.fieldLink RX18 26 "ModedMillModel" "arity" "[I", Cond.fieldLink RX18 400 "ModedMillModel" "askedPredicate" "I", Cond.fieldLink RX18 403 "ModedMillModel" "askedMode" "I", Cond.fieldLink RX18 91 "ModedMillModel" "asked" "[I", Cond.fieldLink RX18 511 "ModedMillModel" "taken" "I", Cond.classLink RX18 515 RX16, Cond.instantiable RX16 3, Cond.initialized RX16, Cond.classLink RX18 478 RX15, Cond.instantiable RX15 6, Cond.initialized RX15, Cond.methodLink RX18 424 yX18_wasAsked, Cond.instanceMethod yX18_wasAsked, Cond.selects RX18 yX18_wasAsked yX18_wasAsked, Cond.initialized RX18, Cond.code yX18_wasAsked cX18_wasAsked 1 (some .boolean), Cond.fieldLink RX18 234 "ModedMillModel" "isAsked" "Z", Cond.fieldLink RX18 130 "ModedMillModel" "code" "I"]
def wsX18_answersByBreadth_r2 : List Cond := [Cond.methodLink RX18 155 yX18_parts, Cond.instanceMethod yX18_parts, Cond.selects RX18 yX18_parts yX18_parts, Cond.code yX18_parts cX18_parts 2 (some .int), Cond.fieldLink RX18 13 "ModedMillModel" "partType" "[I", Cond.methodLink RX18 508 yX17_init, Cond.instanceMethod yX17_init, Cond.code yX17_init cX17_init 4 none, Cond.methodLink RX17 1 objectInit, Cond.instanceMethod objectInit, Cond.code objectInit ⟨#[0xb1]⟩ 1 none, Cond.fieldLink RX17 7 "ModedMillModel$Node" "constructor" "I", Cond.fieldLink RX17 13 "ModedMillModel$Node" "first" "LModedMillModel$Node;", Cond.fieldLink RX17 17 "ModedMillModel$Node" "second" "LModedMillModel$Node;", Cond.methodLink RX18 397 yX18_isInput, Cond.instanceMethod yX18_isInput, Cond.selects RX18 yX18_isInput yX18_isInput, Cond.code yX18_isInput cX18_isInput 4 (some .boolean), Cond.fieldLink RX18 35 "ModedMillModel" "inputs" "[I", Cond.methodLink RX18 501 yX15_init, Cond.instanceMethod yX15_init, Cond.code yX15_init cX15_init 7 none, Cond.methodLink RX15 1 objectInit, Cond.fieldLink RX15 7 "ModedMillModel$Item" "kind" "C"]
def wsX18_answersByBreadth_r3 : List Cond := [Cond.fieldLink RX15 13 "ModedMillModel$Item" "what" "I", Cond.fieldLink RX15 17 "ModedMillModel$Item" "x" "LModedMillModel$Node;", Cond.fieldLink RX15 21 "ModedMillModel$Item" "y" "LModedMillModel$Node;", Cond.fieldLink RX15 24 "ModedMillModel$Item" "z" "LModedMillModel$Node;", Cond.fieldLink RX15 27 "ModedMillModel$Item" "next" "LModedMillModel$Item;", Cond.methodLink RX18 531 yX16_init, Cond.instanceMethod yX16_init, Cond.code yX16_init cX16_init 3 none, Cond.methodLink RX16 1 objectInit, Cond.fieldLink RX16 7 "ModedMillModel$Listed" "items" "LModedMillModel$Item;", Cond.fieldLink RX16 13 "ModedMillModel$Listed" "bindings" "LModedMillModel$Binding;", Cond.methodLink RX18 538 yX18_breadth, Cond.instanceMethod yX18_breadth, Cond.selects RX18 yX18_breadth yX18_breadth, Cond.code yX18_breadth cX18_breadth 11 (some .int), Cond.fieldLink RX18 175 "ModedMillModel" "clauses" "I", Cond.fieldLink RX18 42 "ModedMillModel" "clauseOf" "[I", Cond.fieldLink RX18 464 "ModedMillModel" "bindings" "LModedMillModel$Binding;", Cond.methodLink RX18 523 yX18_isUnknown, Cond.instanceMethod yX18_isUnknown, Cond.selects RX18 yX18_isUnknown yX18_isUnknown, Cond.code yX18_isUnknown cX18_isUnknown 4 (some .boolean), Cond.fieldLink RX18 448 "ModedMillModel" "stamp" "I", Cond.methodLink RX18 454 yX18_has]
def wsX18_answersByBreadth_r4 : List Cond := [Cond.instanceMethod yX18_has, Cond.selects RX18 yX18_has yX18_has, Cond.code yX18_has cX18_has 5 (some .boolean), Cond.methodLink RX18 442 yX18_value, Cond.static yX18_value, Cond.code yX18_value cX18_value 5 (some (.object "ModedMillModel$Node")), Cond.methodLink RX18 497 yX18_without, Cond.static yX18_without, Cond.code yX18_without cX18_without 2 (some (.object "ModedMillModel$Item")), Cond.methodLink RX18 527 yX18_clauseFor, Cond.instanceMethod yX18_clauseFor, Cond.selects RX18 yX18_clauseFor yX18_clauseFor, Cond.code yX18_clauseFor cX18_clauseFor 7 (some (.object "ModedMillModel$Item")), Cond.methodLink RX18 504 yX18_goalsOf, Cond.instanceMethod yX18_goalsOf, Cond.selects RX18 yX18_goalsOf yX18_goalsOf, Cond.code yX18_goalsOf cX18_goalsOf 10 (some (.object "ModedMillModel$Item")), Cond.fieldLink RX18 45 "ModedMillModel" "goals" "[I", Cond.fieldLink RX18 51 "ModedMillModel" "goalKind" "[C", Cond.fieldLink RX18 54 "ModedMillModel" "goalWhat" "[I", Cond.fieldLink RX18 57 "ModedMillModel" "goalVariable" "[I", Cond.methodLink RX18 534 yX18_resolves, Cond.instanceMethod yX18_resolves, Cond.selects RX18 yX18_resolves yX18_resolves]
def wsX18_answersByBreadth_r5 : List Cond := [Cond.code yX18_resolves cX18_resolves 4 (some .int), Cond.fieldLink RX18 461 "ModedMillModel" "pairs" "I", Cond.methodLink RX18 474 yX18_equal, Cond.instanceMethod yX18_equal, Cond.selects RX18 yX18_equal yX18_equal, Cond.code yX18_equal cX18_equal 7 (some .boolean), Cond.classLink RX18 431 RX12, Cond.instantiable RX12 3, Cond.initialized RX12, Cond.methodLink RX18 467 yX12_init, Cond.instanceMethod yX12_init, Cond.code yX12_init cX12_init 4 none, Cond.methodLink RX12 1 objectInit, Cond.fieldLink RX12 7 "ModedMillModel$Binding" "unknown" "LModedMillModel$Node;", Cond.fieldLink RX12 13 "ModedMillModel$Binding" "value" "LModedMillModel$Node;", Cond.fieldLink RX12 16 "ModedMillModel$Binding" "next" "LModedMillModel$Binding;", Cond.methodLink RX18 470 yX18_wasPaired, Cond.instanceMethod yX18_wasPaired, Cond.selects RX18 yX18_wasPaired yX18_wasPaired, Cond.code yX18_wasPaired cX18_wasPaired 6 (some .boolean), Cond.fieldLink RX18 123 "ModedMillModel" "pairOne" "[LModedMillModel$Node;", Cond.fieldLink RX18 127 "ModedMillModel" "pairOther" "[LModedMillModel$Node;", Cond.methodLink RX18 141 yX18_fails, Cond.instanceMethod yX18_fails]
def wsX18_answersByBreadth_r6 : List Cond := [Cond.selects RX18 yX18_fails yX18_fails, Cond.code yX18_fails cX18_fails 2 (some .int)]
def wsX18_answersByBreadth : List Cond := .code yX18_answersByBreadth cX18_answersByBreadth 5 (some .int) :: ((wsX18_answersByBreadth_r1 ++ (wsX18_answersByBreadth_r2 ++ (wsX18_answersByBreadth_r3 ++ (wsX18_answersByBreadth_r4 ++ (wsX18_answersByBreadth_r5 ++ wsX18_answersByBreadth_r6))))) ++ wsX180 ++ wsX170 ++ wsX160 ++ wsX150 ++ wsX120 ++ (vx_atM "java/lang/ArrayIndexOutOfBoundsException" ["java/lang/IndexOutOfBoundsException", "java/lang/RuntimeException", "java/lang/Exception"]).filter goodWord)
theorem dX3_init_0 : decode cX3_init 0 = .ok (.aload_n 0, 1) := by decide +kernel
theorem dX3_init_1 : decode cX3_init 1 = .ok (.invokespecial 3, 3) := by decide +kernel
theorem dX3_init_4 : decode cX3_init 4 = .ok (.aload_n 0, 1) := by decide +kernel
theorem dX3_init_5 : decode cX3_init 5 = .ok (.iload_n 1, 1) := by decide +kernel
theorem dX3_init_6 : decode cX3_init 6 = .ok (.putfield 9, 3) := by decide +kernel
theorem dX3_init_9 : decode cX3_init 9 = .ok (.aload_n 0, 1) := by decide +kernel
theorem dX3_init_10 : decode cX3_init 10 = .ok (.iload_n 2, 1) := by decide +kernel
theorem dX3_init_11 : decode cX3_init 11 = .ok (.putfield 15, 3) := by decide +kernel
theorem dX3_init_14 : decode cX3_init 14 = .ok (.aload_n 0, 1) := by decide +kernel
theorem dX3_init_15 : decode cX3_init 15 = .ok (.iload_n 3, 1) := by decide +kernel
theorem dX3_init_16 : decode cX3_init 16 = .ok (.putfield 18, 3) := by decide +kernel
theorem dX3_init_19 : decode cX3_init 19 = .ok (.aload_n 0, 1) := by decide +kernel
theorem dX3_init_20 : decode cX3_init 20 = .ok (.iconst 3, 1) := by decide +kernel
theorem dX3_init_21 : decode cX3_init 21 = .ok (.newarray .int, 2) := by decide +kernel
theorem dX3_init_23 : decode cX3_init 23 = .ok (.dup, 1) := by decide +kernel
theorem dX3_init_24 : decode cX3_init 24 = .ok (.iconst 0, 1) := by decide +kernel
theorem dX3_init_25 : decode cX3_init 25 = .ok (.iload 4, 2) := by decide +kernel
theorem dX3_init_27 : decode cX3_init 27 = .ok (.iastore, 1) := by decide +kernel
theorem dX3_init_28 : decode cX3_init 28 = .ok (.dup, 1) := by decide +kernel
theorem dX3_init_29 : decode cX3_init 29 = .ok (.iconst 1, 1) := by decide +kernel
theorem dX3_init_30 : decode cX3_init 30 = .ok (.iload 5, 2) := by decide +kernel
theorem dX3_init_32 : decode cX3_init 32 = .ok (.iastore, 1) := by decide +kernel
theorem dX3_init_33 : decode cX3_init 33 = .ok (.dup, 1) := by decide +kernel
theorem dX3_init_34 : decode cX3_init 34 = .ok (.iconst 2, 1) := by decide +kernel
theorem dX3_init_35 : decode cX3_init 35 = .ok (.iload 6, 2) := by decide +kernel
theorem dX3_init_37 : decode cX3_init 37 = .ok (.iastore, 1) := by decide +kernel
theorem dX3_init_38 : decode cX3_init 38 = .ok (.putfield 21, 3) := by decide +kernel
theorem dX3_init_41 : decode cX3_init 41 = .ok (.return_, 1) := by decide +kernel
set_option maxRecDepth 20000 in
theorem ggX6_init_X3_init : GoodIn wsX6_init wsX3_init := goodIn_ca (goodIn_r _ [85, 86, 2, 3, 87, 88, 89, 24, 90, 102, 103, 104, 105] (by decide +kernel) (by decide +kernel)) (goodIn_sub (fun _ h => List.mem_cons_of_mem _ (List.mem_append_right _ h)) (by decide +kernel))
set_option maxRecDepth 20000 in
theorem gX6_init_X3_init : GoodIn wsX6_init (wsX3_init) := ggX6_init_X3_init
theorem dX6_init_0 : decode cX6_init 0 = .ok (.aload_n 0, 1) := by decide +kernel
theorem dX6_init_1 : decode cX6_init 1 = .ok (.invokespecial 3, 3) := by decide +kernel
theorem dX6_init_4 : decode cX6_init 4 = .ok (.aload_n 0, 1) := by decide +kernel
theorem dX6_init_5 : decode cX6_init 5 = .ok (.iload_n 1, 1) := by decide +kernel
theorem dX6_init_6 : decode cX6_init 6 = .ok (.putfield 9, 3) := by decide +kernel
theorem dX6_init_9 : decode cX6_init 9 = .ok (.iload_n 2, 1) := by decide +kernel
theorem dX6_init_10 : decode cX6_init 10 = .ok (.iconst (-1), 1) := by decide +kernel
theorem dX6_init_11 : decode cX6_init 11 = .ok (.if_icmp .ne 7, 3) := by decide +kernel
theorem dX6_init_14 : decode cX6_init 14 = .ok (.iconst 0, 1) := by decide +kernel
theorem dX6_init_15 : decode cX6_init 15 = .ok (.goto 23, 3) := by decide +kernel
theorem dX6_init_18 : decode cX6_init 18 = .ok (.iload_n 3, 1) := by decide +kernel
theorem dX6_init_19 : decode cX6_init 19 = .ok (.iconst (-1), 1) := by decide +kernel
theorem dX6_init_20 : decode cX6_init 20 = .ok (.if_icmp .ne 7, 3) := by decide +kernel
theorem dX6_init_23 : decode cX6_init 23 = .ok (.iconst 1, 1) := by decide +kernel
theorem dX6_init_24 : decode cX6_init 24 = .ok (.goto 14, 3) := by decide +kernel
theorem dX6_init_27 : decode cX6_init 27 = .ok (.iload 4, 2) := by decide +kernel
theorem dX6_init_29 : decode cX6_init 29 = .ok (.iconst (-1), 1) := by decide +kernel
theorem dX6_init_30 : decode cX6_init 30 = .ok (.if_icmp .ne 7, 3) := by decide +kernel
theorem dX6_init_33 : decode cX6_init 33 = .ok (.iconst 2, 1) := by decide +kernel
theorem dX6_init_34 : decode cX6_init 34 = .ok (.goto 4, 3) := by decide +kernel
theorem dX6_init_37 : decode cX6_init 37 = .ok (.iconst 3, 1) := by decide +kernel
theorem dX6_init_38 : decode cX6_init 38 = .ok (.istore 5, 2) := by decide +kernel
theorem dX6_init_40 : decode cX6_init 40 = .ok (.aload_n 0, 1) := by decide +kernel
theorem dX6_init_41 : decode cX6_init 41 = .ok (.new 15, 3) := by decide +kernel
theorem dX6_init_44 : decode cX6_init 44 = .ok (.dup, 1) := by decide +kernel
theorem dX6_init_45 : decode cX6_init 45 = .ok (.iconst 1, 1) := by decide +kernel
theorem dX6_init_46 : decode cX6_init 46 = .ok (.iconst 3, 1) := by decide +kernel
theorem dX6_init_47 : decode cX6_init 47 = .ok (.invokespecial 17, 3) := by decide +kernel
theorem dX6_init_50 : decode cX6_init 50 = .ok (.putfield 20, 3) := by decide +kernel
theorem dX6_init_53 : decode cX6_init 53 = .ok (.iconst 0, 1) := by decide +kernel
theorem dX6_init_54 : decode cX6_init 54 = .ok (.istore 6, 2) := by decide +kernel
theorem dX6_init_56 : decode cX6_init 56 = .ok (.iload 6, 2) := by decide +kernel
theorem dX6_init_58 : decode cX6_init 58 = .ok (.iload 5, 2) := by decide +kernel
theorem dX6_init_60 : decode cX6_init 60 = .ok (.if_icmp .ge 28, 3) := by decide +kernel
theorem dX6_init_63 : decode cX6_init 63 = .ok (.aload_n 0, 1) := by decide +kernel
theorem dX6_init_64 : decode cX6_init 64 = .ok (.getfield 20, 3) := by decide +kernel
theorem dX6_init_67 : decode cX6_init 67 = .ok (.iload 6, 2) := by decide +kernel
theorem dX6_init_69 : decode cX6_init 69 = .ok (.iload_n 2, 1) := by decide +kernel
theorem dX6_init_70 : decode cX6_init 70 = .ok (.iload_n 3, 1) := by decide +kernel
theorem dX6_init_71 : decode cX6_init 71 = .ok (.iload 4, 2) := by decide +kernel
theorem dX6_init_73 : decode cX6_init 73 = .ok (.invokestatic 24, 3) := by decide +kernel
theorem dX6_init_76 : decode cX6_init 76 = .ok (.iconst (-1), 1) := by decide +kernel
theorem dX6_init_77 : decode cX6_init 77 = .ok (.iconst (-1), 1) := by decide +kernel
theorem dX6_init_78 : decode cX6_init 78 = .ok (.invokevirtual 28, 3) := by decide +kernel
theorem dX6_init_81 : decode cX6_init 81 = .ok (.pop, 1) := by decide +kernel
theorem dX6_init_82 : decode cX6_init 82 = .ok (.iinc 6 1, 3) := by decide +kernel
theorem dX6_init_85 : decode cX6_init 85 = .ok (.goto (-29), 3) := by decide +kernel
theorem dX6_init_88 : decode cX6_init 88 = .ok (.aload_n 0, 1) := by decide +kernel
theorem dX6_init_89 : decode cX6_init 89 = .ok (.new 32, 3) := by decide +kernel
theorem dX6_init_92 : decode cX6_init 92 = .ok (.dup, 1) := by decide +kernel
theorem dX6_init_93 : decode cX6_init 93 = .ok (.invokespecial 34, 3) := by decide +kernel
theorem dX6_init_96 : decode cX6_init 96 = .ok (.putfield 35, 3) := by decide +kernel
theorem dX6_init_99 : decode cX6_init 99 = .ok (.aload_n 0, 1) := by decide +kernel
theorem dX6_init_100 : decode cX6_init 100 = .ok (.new 32, 3) := by decide +kernel
theorem dX6_init_103 : decode cX6_init 103 = .ok (.dup, 1) := by decide +kernel
theorem dX6_init_104 : decode cX6_init 104 = .ok (.invokespecial 34, 3) := by decide +kernel
theorem dX6_init_107 : decode cX6_init 107 = .ok (.putfield 39, 3) := by decide +kernel
theorem dX6_init_110 : decode cX6_init 110 = .ok (.aload_n 0, 1) := by decide +kernel
theorem dX6_init_111 : decode cX6_init 111 = .ok (.new 42, 3) := by decide +kernel
theorem dX6_init_114 : decode cX6_init 114 = .ok (.dup, 1) := by decide +kernel
theorem dX6_init_115 : decode cX6_init 115 = .ok (.iconst 2, 1) := by decide +kernel
theorem dX6_init_116 : decode cX6_init 116 = .ok (.iload_n 1, 1) := by decide +kernel
theorem dX6_init_117 : decode cX6_init 117 = .ok (.iload 5, 2) := by decide +kernel
theorem dX6_init_119 : decode cX6_init 119 = .ok (.iconst 0, 1) := by decide +kernel
theorem dX6_init_120 : decode cX6_init 120 = .ok (.iconst 1, 1) := by decide +kernel
theorem dX6_init_121 : decode cX6_init 121 = .ok (.iconst 2, 1) := by decide +kernel
theorem dX6_init_122 : decode cX6_init 122 = .ok (.invokespecial 44, 3) := by decide +kernel
theorem dX6_init_125 : decode cX6_init 125 = .ok (.putfield 47, 3) := by decide +kernel
theorem dX6_init_128 : decode cX6_init 128 = .ok (.return_, 1) := by decide +kernel
set_option maxRecDepth 20000 in
theorem ggX7_predicateCount_Jx4a65c_size_8abf5 : GoodIn wsX7_predicateCount wsJx4a65c_size_8abf5 := goodIn_r _ [6, 7, 11, 12, 13] (by decide +kernel) (by decide +kernel)
set_option maxRecDepth 20000 in
theorem gX7_predicateCount_Jx4a65c_size_8abf5 : GoodIn wsX7_predicateCount (wsV RX7 24 RJx4a65c yJx4a65c_size_8abf5 wsJx4a65c_size_8abf5) := goodIn_app (goodIn_of _ (by decide +kernel)) ggX7_predicateCount_Jx4a65c_size_8abf5
theorem dX7_predicateCount_0 : decode cX7_predicateCount 0 = .ok (.aload_n 0, 1) := by decide +kernel
theorem dX7_predicateCount_1 : decode cX7_predicateCount 1 = .ok (.getfield 12, 3) := by decide +kernel
theorem dX7_predicateCount_4 : decode cX7_predicateCount 4 = .ok (.invokevirtual 24, 3) := by decide +kernel
theorem dX7_predicateCount_7 : decode cX7_predicateCount 7 = .ok (.ireturn, 1) := by decide +kernel
set_option maxRecDepth 20000 in
theorem ggX7_clauseCount_Jx4a65c_size_8abf5 : GoodIn wsX7_clauseCount wsJx4a65c_size_8abf5 := goodIn_r _ [6, 7, 11, 12, 13] (by decide +kernel) (by decide +kernel)
set_option maxRecDepth 20000 in
theorem gX7_clauseCount_Jx4a65c_size_8abf5 : GoodIn wsX7_clauseCount (wsV RX7 24 RJx4a65c yJx4a65c_size_8abf5 wsJx4a65c_size_8abf5) := goodIn_app (goodIn_of _ (by decide +kernel)) ggX7_clauseCount_Jx4a65c_size_8abf5
theorem dX7_clauseCount_0 : decode cX7_clauseCount 0 = .ok (.aload_n 0, 1) := by decide +kernel
theorem dX7_clauseCount_1 : decode cX7_clauseCount 1 = .ok (.getfield 21, 3) := by decide +kernel
theorem dX7_clauseCount_4 : decode cX7_clauseCount 4 = .ok (.invokevirtual 24, 3) := by decide +kernel
theorem dX7_clauseCount_7 : decode cX7_clauseCount 7 = .ok (.ireturn, 1) := by decide +kernel
set_option maxRecDepth 20000 in
theorem ggX7_predicateAt_Jx4a65c_size_8abf5 : GoodIn wsX7_predicateAt wsJx4a65c_size_8abf5 := goodIn_r _ [7, 8, 29, 30, 31] (by decide +kernel) (by decide +kernel)
set_option maxRecDepth 20000 in
theorem gX7_predicateAt_Jx4a65c_size_8abf5 : GoodIn wsX7_predicateAt (wsV RX7 24 RJx4a65c yJx4a65c_size_8abf5 wsJx4a65c_size_8abf5) := goodIn_app (goodIn_of _ (by decide +kernel)) ggX7_predicateAt_Jx4a65c_size_8abf5
theorem dX7_predicateAt_0 : decode cX7_predicateAt 0 = .ok (.iload_n 1, 1) := by decide +kernel
theorem dX7_predicateAt_1 : decode cX7_predicateAt 1 = .ok (.ifCond .lt 28, 3) := by decide +kernel
theorem dX7_predicateAt_4 : decode cX7_predicateAt 4 = .ok (.iload_n 1, 1) := by decide +kernel
theorem dX7_predicateAt_5 : decode cX7_predicateAt 5 = .ok (.aload_n 0, 1) := by decide +kernel
theorem dX7_predicateAt_6 : decode cX7_predicateAt 6 = .ok (.getfield 12, 3) := by decide +kernel
theorem dX7_predicateAt_9 : decode cX7_predicateAt 9 = .ok (.invokevirtual 24, 3) := by decide +kernel
theorem dX7_predicateAt_12 : decode cX7_predicateAt 12 = .ok (.if_icmp .ge 17, 3) := by decide +kernel
theorem dX7_predicateAt_15 : decode cX7_predicateAt 15 = .ok (.aload_n 0, 1) := by decide +kernel
theorem dX7_predicateAt_16 : decode cX7_predicateAt 16 = .ok (.getfield 12, 3) := by decide +kernel
theorem dX7_predicateAt_19 : decode cX7_predicateAt 19 = .ok (.iload_n 1, 1) := by decide +kernel
theorem dX7_predicateAt_20 : decode cX7_predicateAt 20 = .ok (.invokevirtual 28, 3) := by decide +kernel
theorem dX7_predicateAt_23 : decode cX7_predicateAt 23 = .ok (.checkcast 32, 3) := by decide +kernel
theorem dX7_predicateAt_26 : decode cX7_predicateAt 26 = .ok (.goto 4, 3) := by decide +kernel
theorem dX7_predicateAt_29 : decode cX7_predicateAt 29 = .ok (.aconst_null, 1) := by decide +kernel
theorem dX7_predicateAt_30 : decode cX7_predicateAt 30 = .ok (.areturn, 1) := by decide +kernel
set_option maxRecDepth 20000 in
theorem ggX7_clauseAt_Jx4a65c_size_8abf5 : GoodIn wsX7_clauseAt wsJx4a65c_size_8abf5 := goodIn_r _ [7, 8, 29, 30, 31] (by decide +kernel) (by decide +kernel)
set_option maxRecDepth 20000 in
theorem gX7_clauseAt_Jx4a65c_size_8abf5 : GoodIn wsX7_clauseAt (wsV RX7 24 RJx4a65c yJx4a65c_size_8abf5 wsJx4a65c_size_8abf5) := goodIn_app (goodIn_of _ (by decide +kernel)) ggX7_clauseAt_Jx4a65c_size_8abf5
theorem dX7_clauseAt_0 : decode cX7_clauseAt 0 = .ok (.iload_n 1, 1) := by decide +kernel
theorem dX7_clauseAt_1 : decode cX7_clauseAt 1 = .ok (.ifCond .lt 28, 3) := by decide +kernel
theorem dX7_clauseAt_4 : decode cX7_clauseAt 4 = .ok (.iload_n 1, 1) := by decide +kernel
theorem dX7_clauseAt_5 : decode cX7_clauseAt 5 = .ok (.aload_n 0, 1) := by decide +kernel
theorem dX7_clauseAt_6 : decode cX7_clauseAt 6 = .ok (.getfield 21, 3) := by decide +kernel
theorem dX7_clauseAt_9 : decode cX7_clauseAt 9 = .ok (.invokevirtual 24, 3) := by decide +kernel
theorem dX7_clauseAt_12 : decode cX7_clauseAt 12 = .ok (.if_icmp .ge 17, 3) := by decide +kernel
theorem dX7_clauseAt_15 : decode cX7_clauseAt 15 = .ok (.aload_n 0, 1) := by decide +kernel
theorem dX7_clauseAt_16 : decode cX7_clauseAt 16 = .ok (.getfield 21, 3) := by decide +kernel
theorem dX7_clauseAt_19 : decode cX7_clauseAt 19 = .ok (.iload_n 1, 1) := by decide +kernel
theorem dX7_clauseAt_20 : decode cX7_clauseAt 20 = .ok (.invokevirtual 28, 3) := by decide +kernel
theorem dX7_clauseAt_23 : decode cX7_clauseAt 23 = .ok (.checkcast 34, 3) := by decide +kernel
theorem dX7_clauseAt_26 : decode cX7_clauseAt 26 = .ok (.goto 4, 3) := by decide +kernel
theorem dX7_clauseAt_29 : decode cX7_clauseAt 29 = .ok (.aconst_null, 1) := by decide +kernel
theorem dX7_clauseAt_30 : decode cX7_clauseAt 30 = .ok (.areturn, 1) := by decide +kernel
set_option maxRecDepth 20000 in
theorem ggX7_modeAt_X7_predicateAt : GoodIn wsX7_modeAt wsX7_predicateAt := goodIn_r _ [5, 6, 7, 8, 9, 10, 11, 12, 13, 14, 15, 16, 17, 18, 19, 20, 21, 22, 23, 24, 25, 26, 27, 28, 29, 30, 40, 41, 42, 43, 44, 45] (by decide +kernel) (by decide +kernel)
set_option maxRecDepth 20000 in
theorem gX7_modeAt_X7_predicateAt : GoodIn wsX7_modeAt (wsV RX7 36 RX7 yX7_predicateAt wsX7_predicateAt) := goodIn_app (goodIn_of _ (by decide +kernel)) ggX7_modeAt_X7_predicateAt
theorem dX7_modeAt_0 : decode cX7_modeAt 0 = .ok (.aload_n 0, 1) := by decide +kernel
theorem dX7_modeAt_1 : decode cX7_modeAt 1 = .ok (.iload_n 1, 1) := by decide +kernel
theorem dX7_modeAt_2 : decode cX7_modeAt 2 = .ok (.invokevirtual 36, 3) := by decide +kernel
theorem dX7_modeAt_5 : decode cX7_modeAt 5 = .ok (.astore_n 3, 1) := by decide +kernel
theorem dX7_modeAt_6 : decode cX7_modeAt 6 = .ok (.aload_n 3, 1) := by decide +kernel
theorem dX7_modeAt_7 : decode cX7_modeAt 7 = .ok (.ifnonnull 7, 3) := by decide +kernel
theorem dX7_modeAt_10 : decode cX7_modeAt 10 = .ok (.aconst_null, 1) := by decide +kernel
theorem dX7_modeAt_11 : decode cX7_modeAt 11 = .ok (.goto 8, 3) := by decide +kernel
theorem dX7_modeAt_14 : decode cX7_modeAt 14 = .ok (.aload_n 3, 1) := by decide +kernel
theorem dX7_modeAt_15 : decode cX7_modeAt 15 = .ok (.iload_n 2, 1) := by decide +kernel
theorem dX7_modeAt_16 : decode cX7_modeAt 16 = .ok (.invokevirtual 40, 3) := by decide +kernel
theorem dX7_modeAt_19 : decode cX7_modeAt 19 = .ok (.areturn, 1) := by decide +kernel
set_option maxRecDepth 20000 in
theorem ggX7_newPredicate_Jx4a65c_size_8abf5 : GoodIn wsX7_newPredicate wsJx4a65c_size_8abf5 := goodIn_r _ [9, 10, 154, 155, 156] (by decide +kernel) (by decide +kernel)
set_option maxRecDepth 20000 in
theorem gX7_newPredicate_Jx4a65c_size_8abf5 : GoodIn wsX7_newPredicate (wsV RX7 24 RJx4a65c yJx4a65c_size_8abf5 wsJx4a65c_size_8abf5) := goodIn_app (goodIn_of _ (by decide +kernel)) ggX7_newPredicate_Jx4a65c_size_8abf5
set_option maxRecDepth 20000 in
theorem ggX7_newPredicate_X6_init : GoodIn wsX7_newPredicate wsX6_init := goodIn_ca (goodIn_r _ [13, 14, 15, 16, 17, 18, 19, 20, 21, 22, 23, 8, 24, 25, 26, 27, 28, 29, 30, 31, 32, 33, 34, 35, 36, 37, 38, 39, 40, 41, 42, 43, 44, 45, 46, 47, 48, 49, 50, 51, 52, 53, 54, 55, 56, 57, 58, 59, 60, 61, 62, 63, 64, 65, 66, 67, 68, 69, 70, 71, 72, 73, 74, 75, 76, 77, 78, 79, 80, 81, 82, 83, 84, 85, 86, 87, 88, 89, 90, 91, 92, 93, 94, 95, 96, 97, 98, 99, 100, 101, 102, 149, 150, 151, 152, 153, 157, 158, 159, 154, 155, 156, 160, 161, 162, 163, 164, 165, 166, 167, 168, 169, 170, 171, 172, 173] (by decide +kernel) (by decide +kernel)) (goodIn_sub (fun _ h => List.mem_cons_of_mem _ (List.mem_append_right _ h)) (by decide +kernel))
set_option maxRecDepth 20000 in
theorem gX7_newPredicate_X6_init : GoodIn wsX7_newPredicate (wsX6_init) := ggX7_newPredicate_X6_init
set_option maxRecDepth 20000 in
theorem ggX7_newPredicate_Jx4a65c_add_9ea2d : GoodIn wsX7_newPredicate wsJx4a65c_add_9ea2d := goodIn_r _ [106, 107, 108, 84, 10, 109, 110, 111, 8, 112, 113, 114, 115, 116, 117, 118, 119, 120, 83, 121, 122, 58, 123, 124, 125, 126, 127, 128, 129, 130, 131, 132, 133, 134, 135, 48, 136, 137, 138, 139, 140, 141, 142, 143, 144, 145, 56, 57, 59, 60, 61, 62, 63, 154, 155, 156] (by decide +kernel) (by decide +kernel)
set_option maxRecDepth 20000 in
theorem gX7_newPredicate_Jx4a65c_add_9ea2d : GoodIn wsX7_newPredicate (wsV RX7 47 RJx4a65c yJx4a65c_add_9ea2d wsJx4a65c_add_9ea2d) := goodIn_app (goodIn_of _ (by decide +kernel)) ggX7_newPredicate_Jx4a65c_add_9ea2d
theorem dX7_newPredicate_0 : decode cX7_newPredicate 0 = .ok (.aload_n 0, 1) := by decide +kernel
theorem dX7_newPredicate_1 : decode cX7_newPredicate 1 = .ok (.getfield 12, 3) := by decide +kernel
theorem dX7_newPredicate_4 : decode cX7_newPredicate 4 = .ok (.new 32, 3) := by decide +kernel
theorem dX7_newPredicate_7 : decode cX7_newPredicate 7 = .ok (.dup, 1) := by decide +kernel
theorem dX7_newPredicate_8 : decode cX7_newPredicate 8 = .ok (.aload_n 0, 1) := by decide +kernel
theorem dX7_newPredicate_9 : decode cX7_newPredicate 9 = .ok (.getfield 12, 3) := by decide +kernel
theorem dX7_newPredicate_12 : decode cX7_newPredicate 12 = .ok (.invokevirtual 24, 3) := by decide +kernel
theorem dX7_newPredicate_15 : decode cX7_newPredicate 15 = .ok (.iload_n 1, 1) := by decide +kernel
theorem dX7_newPredicate_16 : decode cX7_newPredicate 16 = .ok (.iload_n 2, 1) := by decide +kernel
theorem dX7_newPredicate_17 : decode cX7_newPredicate 17 = .ok (.iload_n 3, 1) := by decide +kernel
theorem dX7_newPredicate_18 : decode cX7_newPredicate 18 = .ok (.invokespecial 44, 3) := by decide +kernel
theorem dX7_newPredicate_21 : decode cX7_newPredicate 21 = .ok (.invokevirtual 47, 3) := by decide +kernel
theorem dX7_newPredicate_24 : decode cX7_newPredicate 24 = .ok (.pop, 1) := by decide +kernel
theorem dX7_newPredicate_25 : decode cX7_newPredicate 25 = .ok (.aload_n 0, 1) := by decide +kernel
theorem dX7_newPredicate_26 : decode cX7_newPredicate 26 = .ok (.getfield 12, 3) := by decide +kernel
theorem dX7_newPredicate_29 : decode cX7_newPredicate 29 = .ok (.invokevirtual 24, 3) := by decide +kernel
theorem dX7_newPredicate_32 : decode cX7_newPredicate 32 = .ok (.iconst 1, 1) := by decide +kernel
theorem dX7_newPredicate_33 : decode cX7_newPredicate 33 = .ok (.isub, 1) := by decide +kernel
theorem dX7_newPredicate_34 : decode cX7_newPredicate 34 = .ok (.ireturn, 1) := by decide +kernel
set_option maxRecDepth 20000 in
theorem ggX7_faultCount_Jx4a65c_size_8abf5 : GoodIn wsX7_faultCount wsJx4a65c_size_8abf5 := goodIn_r _ [7, 8, 43, 44, 45] (by decide +kernel) (by decide +kernel)
set_option maxRecDepth 20000 in
theorem gX7_faultCount_Jx4a65c_size_8abf5 : GoodIn wsX7_faultCount (wsV RX7 24 RJx4a65c yJx4a65c_size_8abf5 wsJx4a65c_size_8abf5) := goodIn_app (goodIn_of _ (by decide +kernel)) ggX7_faultCount_Jx4a65c_size_8abf5
theorem dX7_faultCount_0 : decode cX7_faultCount 0 = .ok (.iconst 0, 1) := by decide +kernel
theorem dX7_faultCount_1 : decode cX7_faultCount 1 = .ok (.istore_n 1, 1) := by decide +kernel
theorem dX7_faultCount_2 : decode cX7_faultCount 2 = .ok (.iconst 0, 1) := by decide +kernel
theorem dX7_faultCount_3 : decode cX7_faultCount 3 = .ok (.istore_n 2, 1) := by decide +kernel
theorem dX7_faultCount_4 : decode cX7_faultCount 4 = .ok (.iload_n 2, 1) := by decide +kernel
theorem dX7_faultCount_5 : decode cX7_faultCount 5 = .ok (.aload_n 0, 1) := by decide +kernel
theorem dX7_faultCount_6 : decode cX7_faultCount 6 = .ok (.getfield 18, 3) := by decide +kernel
theorem dX7_faultCount_9 : decode cX7_faultCount 9 = .ok (.invokevirtual 24, 3) := by decide +kernel
theorem dX7_faultCount_12 : decode cX7_faultCount 12 = .ok (.if_icmp .ge 36, 3) := by decide +kernel
theorem dX7_faultCount_15 : decode cX7_faultCount 15 = .ok (.iload_n 1, 1) := by decide +kernel
theorem dX7_faultCount_16 : decode cX7_faultCount 16 = .ok (.aload_n 0, 1) := by decide +kernel
theorem dX7_faultCount_17 : decode cX7_faultCount 17 = .ok (.getfield 18, 3) := by decide +kernel
theorem dX7_faultCount_20 : decode cX7_faultCount 20 = .ok (.iload_n 2, 1) := by decide +kernel
theorem dX7_faultCount_21 : decode cX7_faultCount 21 = .ok (.invokevirtual 28, 3) := by decide +kernel
theorem dX7_faultCount_24 : decode cX7_faultCount 24 = .ok (.checkcast 51, 3) := by decide +kernel
theorem dX7_faultCount_27 : decode cX7_faultCount 27 = .ok (.invokevirtual 66, 3) := by decide +kernel
theorem dX7_faultCount_30 : decode cX7_faultCount 30 = .ok (.bipush 45, 2) := by decide +kernel
theorem dX7_faultCount_32 : decode cX7_faultCount 32 = .ok (.if_icmp .ne 7, 3) := by decide +kernel
theorem dX7_faultCount_35 : decode cX7_faultCount 35 = .ok (.iconst 0, 1) := by decide +kernel
theorem dX7_faultCount_36 : decode cX7_faultCount 36 = .ok (.goto 4, 3) := by decide +kernel
theorem dX7_faultCount_39 : decode cX7_faultCount 39 = .ok (.iconst 1, 1) := by decide +kernel
theorem dX7_faultCount_40 : decode cX7_faultCount 40 = .ok (.iadd, 1) := by decide +kernel
theorem dX7_faultCount_41 : decode cX7_faultCount 41 = .ok (.istore_n 1, 1) := by decide +kernel
theorem dX7_faultCount_42 : decode cX7_faultCount 42 = .ok (.iinc 2 1, 3) := by decide +kernel
theorem dX7_faultCount_45 : decode cX7_faultCount 45 = .ok (.goto (-41), 3) := by decide +kernel
theorem dX7_faultCount_48 : decode cX7_faultCount 48 = .ok (.iload_n 1, 1) := by decide +kernel
theorem dX7_faultCount_49 : decode cX7_faultCount 49 = .ok (.ireturn, 1) := by decide +kernel
set_option maxRecDepth 20000 in
theorem ggX7_analyse_Jx4a65c_size_8abf5 : GoodIn wsX7_analyse wsJx4a65c_size_8abf5 := goodIn_r _ [7, 8, 229, 230, 231] (by decide +kernel) (by decide +kernel)
set_option maxRecDepth 20000 in
theorem gX7_analyse_Jx4a65c_size_8abf5 : GoodIn wsX7_analyse (wsV RX7 24 RJx4a65c yJx4a65c_size_8abf5 wsJx4a65c_size_8abf5) := goodIn_app (goodIn_of _ (by decide +kernel)) ggX7_analyse_Jx4a65c_size_8abf5
set_option maxRecDepth 20000 in
theorem ggX7_analyse_X7_spreadFaults : GoodIn wsX7_analyse wsX7_spreadFaults := goodIn_ca (goodIn_r _ [157, 1, 2, 3, 4, 5, 6, 7, 8, 9, 10, 11, 12, 13, 14, 15, 16, 17, 18, 19, 20, 21, 22, 23, 24, 25, 158, 159, 29, 160, 31, 32, 33, 34, 35, 36, 37, 38, 39, 40, 41, 42, 43, 161, 128, 129, 51, 130, 53, 162, 163, 164, 165, 125, 131, 132, 133, 134, 217, 218, 219, 220, 221, 222, 223, 224, 225, 226, 227, 228, 229, 230, 231, 232, 233, 234, 235, 236, 237, 238, 239, 240, 241, 242, 243, 244, 245] (by decide +kernel) (by decide +kernel)) (goodIn_sub (fun _ h => List.mem_cons_of_mem _ (List.mem_append_right _ h)) (by decide +kernel))
set_option maxRecDepth 20000 in
theorem gX7_analyse_X7_spreadFaults : GoodIn wsX7_analyse (wsV RX7 94 RX7 yX7_spreadFaults wsX7_spreadFaults) := goodIn_app (goodIn_of _ (by decide +kernel)) ggX7_analyse_X7_spreadFaults
set_option maxRecDepth 20000 in
theorem ggX7_analyse_X7_spreadFound : GoodIn wsX7_analyse wsX7_spreadFound := goodIn_ca (goodIn_r _ [169, 1, 2, 3, 4, 5, 6, 7, 8, 9, 10, 11, 12, 13, 14, 15, 16, 17, 18, 19, 20, 21, 22, 23, 24, 25, 170, 171, 29, 172, 31, 32, 33, 34, 35, 36, 37, 38, 39, 40, 41, 42, 43, 173, 174, 175, 161, 128, 129, 51, 130, 53, 150, 151, 152, 153, 124, 131, 132, 133, 134, 176, 177, 178, 179, 126, 162, 163, 164, 165, 125, 180, 181, 182, 99, 100, 101, 102, 103, 104, 105, 106, 107, 77, 108, 109, 183, 184, 185, 186, 187, 188, 189, 190, 191, 192, 140, 193, 194, 195, 144, 196, 197, 146, 198, 199, 200, 201, 202, 203, 204, 205, 142, 143, 145, 206, 207, 208, 209, 210, 211, 212, 213, 214, 215, 216, 217, 218, 219, 220, 221, 222, 223, 224, 225, 226, 227, 228, 229, 230, 231, 232, 233, 234, 235, 236, 237, 238, 239, 240, 241, 242, 243, 244, 245, 246, 247, 248, 249, 250, 251, 252, 253, 254, 255, 256, 257] (by decide +kernel) (by decide +kernel)) (goodIn_sub (fun _ h => List.mem_cons_of_mem _ (List.mem_append_right _ h)) (by decide +kernel))
set_option maxRecDepth 20000 in
theorem gX7_analyse_X7_spreadFound : GoodIn wsX7_analyse (wsV RX7 98 RX7 yX7_spreadFound wsX7_spreadFound) := goodIn_app (goodIn_of _ (by decide +kernel)) ggX7_analyse_X7_spreadFound
theorem dX7_analyse_0 : decode cX7_analyse 0 = .ok (.iconst 0, 1) := by decide +kernel
theorem dX7_analyse_1 : decode cX7_analyse 1 = .ok (.istore_n 2, 1) := by decide +kernel
theorem dX7_analyse_2 : decode cX7_analyse 2 = .ok (.iload_n 2, 1) := by decide +kernel
theorem dX7_analyse_3 : decode cX7_analyse 3 = .ok (.aload_n 0, 1) := by decide +kernel
theorem dX7_analyse_4 : decode cX7_analyse 4 = .ok (.getfield 18, 3) := by decide +kernel
theorem dX7_analyse_7 : decode cX7_analyse 7 = .ok (.invokevirtual 24, 3) := by decide +kernel
theorem dX7_analyse_10 : decode cX7_analyse 10 = .ok (.if_icmp .ge 72, 3) := by decide +kernel
theorem dX7_analyse_13 : decode cX7_analyse 13 = .ok (.aload_n 0, 1) := by decide +kernel
theorem dX7_analyse_14 : decode cX7_analyse 14 = .ok (.getfield 18, 3) := by decide +kernel
theorem dX7_analyse_17 : decode cX7_analyse 17 = .ok (.iload_n 2, 1) := by decide +kernel
theorem dX7_analyse_18 : decode cX7_analyse 18 = .ok (.invokevirtual 28, 3) := by decide +kernel
theorem dX7_analyse_21 : decode cX7_analyse 21 = .ok (.checkcast 51, 3) := by decide +kernel
theorem dX7_analyse_24 : decode cX7_analyse 24 = .ok (.astore_n 3, 1) := by decide +kernel
theorem dX7_analyse_25 : decode cX7_analyse 25 = .ok (.aload_n 3, 1) := by decide +kernel
theorem dX7_analyse_26 : decode cX7_analyse 26 = .ok (.aload_n 0, 1) := by decide +kernel
theorem dX7_analyse_27 : decode cX7_analyse 27 = .ok (.aload_n 3, 1) := by decide +kernel
theorem dX7_analyse_28 : decode cX7_analyse 28 = .ok (.invokevirtual 77, 3) := by decide +kernel
theorem dX7_analyse_31 : decode cX7_analyse 31 = .ok (.ifCond .ne 7, 3) := by decide +kernel
theorem dX7_analyse_34 : decode cX7_analyse 34 = .ok (.iconst 1, 1) := by decide +kernel
theorem dX7_analyse_35 : decode cX7_analyse 35 = .ok (.goto 4, 3) := by decide +kernel
theorem dX7_analyse_38 : decode cX7_analyse 38 = .ok (.iconst 0, 1) := by decide +kernel
theorem dX7_analyse_39 : decode cX7_analyse 39 = .ok (.putfield 81, 3) := by decide +kernel
theorem dX7_analyse_42 : decode cX7_analyse 42 = .ok (.aload_n 3, 1) := by decide +kernel
theorem dX7_analyse_43 : decode cX7_analyse 43 = .ok (.aload_n 3, 1) := by decide +kernel
theorem dX7_analyse_44 : decode cX7_analyse 44 = .ok (.getfield 81, 3) := by decide +kernel
theorem dX7_analyse_47 : decode cX7_analyse 47 = .ok (.ifCond .ne 7, 3) := by decide +kernel
theorem dX7_analyse_50 : decode cX7_analyse 50 = .ok (.iconst 1, 1) := by decide +kernel
theorem dX7_analyse_51 : decode cX7_analyse 51 = .ok (.goto 4, 3) := by decide +kernel
theorem dX7_analyse_54 : decode cX7_analyse 54 = .ok (.iconst 0, 1) := by decide +kernel
theorem dX7_analyse_55 : decode cX7_analyse 55 = .ok (.putfield 70, 3) := by decide +kernel
theorem dX7_analyse_58 : decode cX7_analyse 58 = .ok (.aload_n 3, 1) := by decide +kernel
theorem dX7_analyse_59 : decode cX7_analyse 59 = .ok (.iconst 0, 1) := by decide +kernel
theorem dX7_analyse_60 : decode cX7_analyse 60 = .ok (.putfield 84, 3) := by decide +kernel
theorem dX7_analyse_63 : decode cX7_analyse 63 = .ok (.aload_n 3, 1) := by decide +kernel
theorem dX7_analyse_64 : decode cX7_analyse 64 = .ok (.iconst 0, 1) := by decide +kernel
theorem dX7_analyse_65 : decode cX7_analyse 65 = .ok (.putfield 74, 3) := by decide +kernel
theorem dX7_analyse_68 : decode cX7_analyse 68 = .ok (.aload_n 3, 1) := by decide +kernel
theorem dX7_analyse_69 : decode cX7_analyse 69 = .ok (.aload_n 3, 1) := by decide +kernel
theorem dX7_analyse_70 : decode cX7_analyse 70 = .ok (.invokestatic 87, 3) := by decide +kernel
theorem dX7_analyse_73 : decode cX7_analyse 73 = .ok (.putfield 91, 3) := by decide +kernel
theorem dX7_analyse_76 : decode cX7_analyse 76 = .ok (.iinc 2 1, 3) := by decide +kernel
theorem dX7_analyse_79 : decode cX7_analyse 79 = .ok (.goto (-77), 3) := by decide +kernel
theorem dX7_analyse_82 : decode cX7_analyse 82 = .ok (.iconst 1, 1) := by decide +kernel
theorem dX7_analyse_83 : decode cX7_analyse 83 = .ok (.istore_n 2, 1) := by decide +kernel
theorem dX7_analyse_84 : decode cX7_analyse 84 = .ok (.iconst 0, 1) := by decide +kernel
theorem dX7_analyse_85 : decode cX7_analyse 85 = .ok (.istore_n 3, 1) := by decide +kernel
theorem dX7_analyse_86 : decode cX7_analyse 86 = .ok (.iload_n 3, 1) := by decide +kernel
theorem dX7_analyse_87 : decode cX7_analyse 87 = .ok (.aload_n 0, 1) := by decide +kernel
theorem dX7_analyse_88 : decode cX7_analyse 88 = .ok (.getfield 18, 3) := by decide +kernel
theorem dX7_analyse_91 : decode cX7_analyse 91 = .ok (.invokevirtual 24, 3) := by decide +kernel
theorem dX7_analyse_94 : decode cX7_analyse 94 = .ok (.if_icmp .gt 18, 3) := by decide +kernel
theorem dX7_analyse_97 : decode cX7_analyse 97 = .ok (.iload_n 2, 1) := by decide +kernel
theorem dX7_analyse_98 : decode cX7_analyse 98 = .ok (.ifCond .eq 14, 3) := by decide +kernel
theorem dX7_analyse_101 : decode cX7_analyse 101 = .ok (.aload_n 0, 1) := by decide +kernel
theorem dX7_analyse_102 : decode cX7_analyse 102 = .ok (.invokevirtual 94, 3) := by decide +kernel
theorem dX7_analyse_105 : decode cX7_analyse 105 = .ok (.istore_n 2, 1) := by decide +kernel
theorem dX7_analyse_106 : decode cX7_analyse 106 = .ok (.iinc 3 1, 3) := by decide +kernel
theorem dX7_analyse_109 : decode cX7_analyse 109 = .ok (.goto (-23), 3) := by decide +kernel
theorem dX7_analyse_112 : decode cX7_analyse 112 = .ok (.iconst 1, 1) := by decide +kernel
theorem dX7_analyse_113 : decode cX7_analyse 113 = .ok (.istore_n 2, 1) := by decide +kernel
theorem dX7_analyse_114 : decode cX7_analyse 114 = .ok (.iconst 0, 1) := by decide +kernel
theorem dX7_analyse_115 : decode cX7_analyse 115 = .ok (.istore_n 3, 1) := by decide +kernel
theorem dX7_analyse_116 : decode cX7_analyse 116 = .ok (.iload_n 3, 1) := by decide +kernel
theorem dX7_analyse_117 : decode cX7_analyse 117 = .ok (.iconst 2, 1) := by decide +kernel
theorem dX7_analyse_118 : decode cX7_analyse 118 = .ok (.aload_n 0, 1) := by decide +kernel
theorem dX7_analyse_119 : decode cX7_analyse 119 = .ok (.getfield 18, 3) := by decide +kernel
theorem dX7_analyse_122 : decode cX7_analyse 122 = .ok (.invokevirtual 24, 3) := by decide +kernel
theorem dX7_analyse_125 : decode cX7_analyse 125 = .ok (.imul, 1) := by decide +kernel
theorem dX7_analyse_126 : decode cX7_analyse 126 = .ok (.if_icmp .gt 19, 3) := by decide +kernel
theorem dX7_analyse_129 : decode cX7_analyse 129 = .ok (.iload_n 2, 1) := by decide +kernel
theorem dX7_analyse_130 : decode cX7_analyse 130 = .ok (.ifCond .eq 15, 3) := by decide +kernel
theorem dX7_analyse_133 : decode cX7_analyse 133 = .ok (.aload_n 0, 1) := by decide +kernel
theorem dX7_analyse_134 : decode cX7_analyse 134 = .ok (.aload_n 1, 1) := by decide +kernel
theorem dX7_analyse_135 : decode cX7_analyse 135 = .ok (.invokevirtual 98, 3) := by decide +kernel
theorem dX7_analyse_138 : decode cX7_analyse 138 = .ok (.istore_n 2, 1) := by decide +kernel
theorem dX7_analyse_139 : decode cX7_analyse 139 = .ok (.iinc 3 1, 3) := by decide +kernel
theorem dX7_analyse_142 : decode cX7_analyse 142 = .ok (.goto (-26), 3) := by decide +kernel
theorem dX7_analyse_145 : decode cX7_analyse 145 = .ok (.return_, 1) := by decide +kernel
set_option maxRecDepth 20000 in
theorem ggX7_spreadFaults_Jx4a65c_size_8abf5 : GoodIn wsX7_spreadFaults wsJx4a65c_size_8abf5 := goodIn_r _ [7, 8, 70, 71, 72] (by decide +kernel) (by decide +kernel)
set_option maxRecDepth 20000 in
theorem gX7_spreadFaults_Jx4a65c_size_8abf5 : GoodIn wsX7_spreadFaults (wsV RX7 24 RJx4a65c yJx4a65c_size_8abf5 wsJx4a65c_size_8abf5) := goodIn_app (goodIn_of _ (by decide +kernel)) ggX7_spreadFaults_Jx4a65c_size_8abf5
theorem dX7_spreadFaults_0 : decode cX7_spreadFaults 0 = .ok (.iconst 0, 1) := by decide +kernel
theorem dX7_spreadFaults_1 : decode cX7_spreadFaults 1 = .ok (.istore_n 1, 1) := by decide +kernel
theorem dX7_spreadFaults_2 : decode cX7_spreadFaults 2 = .ok (.iconst 0, 1) := by decide +kernel
theorem dX7_spreadFaults_3 : decode cX7_spreadFaults 3 = .ok (.istore_n 2, 1) := by decide +kernel
theorem dX7_spreadFaults_4 : decode cX7_spreadFaults 4 = .ok (.iload_n 2, 1) := by decide +kernel
theorem dX7_spreadFaults_5 : decode cX7_spreadFaults 5 = .ok (.aload_n 0, 1) := by decide +kernel
theorem dX7_spreadFaults_6 : decode cX7_spreadFaults 6 = .ok (.getfield 18, 3) := by decide +kernel
theorem dX7_spreadFaults_9 : decode cX7_spreadFaults 9 = .ok (.invokevirtual 24, 3) := by decide +kernel
theorem dX7_spreadFaults_12 : decode cX7_spreadFaults 12 = .ok (.if_icmp .ge 42, 3) := by decide +kernel
theorem dX7_spreadFaults_15 : decode cX7_spreadFaults 15 = .ok (.aload_n 0, 1) := by decide +kernel
theorem dX7_spreadFaults_16 : decode cX7_spreadFaults 16 = .ok (.getfield 18, 3) := by decide +kernel
theorem dX7_spreadFaults_19 : decode cX7_spreadFaults 19 = .ok (.iload_n 2, 1) := by decide +kernel
theorem dX7_spreadFaults_20 : decode cX7_spreadFaults 20 = .ok (.invokevirtual 28, 3) := by decide +kernel
theorem dX7_spreadFaults_23 : decode cX7_spreadFaults 23 = .ok (.checkcast 51, 3) := by decide +kernel
theorem dX7_spreadFaults_26 : decode cX7_spreadFaults 26 = .ok (.astore_n 3, 1) := by decide +kernel
theorem dX7_spreadFaults_27 : decode cX7_spreadFaults 27 = .ok (.aload_n 3, 1) := by decide +kernel
theorem dX7_spreadFaults_28 : decode cX7_spreadFaults 28 = .ok (.getfield 70, 3) := by decide +kernel
theorem dX7_spreadFaults_31 : decode cX7_spreadFaults 31 = .ok (.ifCond .eq 17, 3) := by decide +kernel
theorem dX7_spreadFaults_34 : decode cX7_spreadFaults 34 = .ok (.aload_n 3, 1) := by decide +kernel
theorem dX7_spreadFaults_35 : decode cX7_spreadFaults 35 = .ok (.invokestatic 185, 3) := by decide +kernel
theorem dX7_spreadFaults_38 : decode cX7_spreadFaults 38 = .ok (.ifCond .eq 10, 3) := by decide +kernel
theorem dX7_spreadFaults_41 : decode cX7_spreadFaults 41 = .ok (.aload_n 3, 1) := by decide +kernel
theorem dX7_spreadFaults_42 : decode cX7_spreadFaults 42 = .ok (.iconst 0, 1) := by decide +kernel
theorem dX7_spreadFaults_43 : decode cX7_spreadFaults 43 = .ok (.putfield 70, 3) := by decide +kernel
theorem dX7_spreadFaults_46 : decode cX7_spreadFaults 46 = .ok (.iconst 1, 1) := by decide +kernel
theorem dX7_spreadFaults_47 : decode cX7_spreadFaults 47 = .ok (.istore_n 1, 1) := by decide +kernel
theorem dX7_spreadFaults_48 : decode cX7_spreadFaults 48 = .ok (.iinc 2 1, 3) := by decide +kernel
theorem dX7_spreadFaults_51 : decode cX7_spreadFaults 51 = .ok (.goto (-47), 3) := by decide +kernel
theorem dX7_spreadFaults_54 : decode cX7_spreadFaults 54 = .ok (.iload_n 1, 1) := by decide +kernel
theorem dX7_spreadFaults_55 : decode cX7_spreadFaults 55 = .ok (.ireturn, 1) := by decide +kernel
set_option maxRecDepth 20000 in
theorem ggX7_spreadFound_Jx4a65c_size_8abf5 : GoodIn wsX7_spreadFound wsJx4a65c_size_8abf5 := goodIn_r _ [7, 8, 138, 139, 140] (by decide +kernel) (by decide +kernel)
set_option maxRecDepth 20000 in
theorem gX7_spreadFound_Jx4a65c_size_8abf5 : GoodIn wsX7_spreadFound (wsV RX7 24 RJx4a65c yJx4a65c_size_8abf5 wsJx4a65c_size_8abf5) := goodIn_app (goodIn_of _ (by decide +kernel)) ggX7_spreadFound_Jx4a65c_size_8abf5
theorem dX7_spreadFound_0 : decode cX7_spreadFound 0 = .ok (.iconst 0, 1) := by decide +kernel
theorem dX7_spreadFound_1 : decode cX7_spreadFound 1 = .ok (.istore_n 2, 1) := by decide +kernel
theorem dX7_spreadFound_2 : decode cX7_spreadFound 2 = .ok (.iconst 0, 1) := by decide +kernel
theorem dX7_spreadFound_3 : decode cX7_spreadFound 3 = .ok (.istore_n 3, 1) := by decide +kernel
theorem dX7_spreadFound_4 : decode cX7_spreadFound 4 = .ok (.iload_n 3, 1) := by decide +kernel
theorem dX7_spreadFound_5 : decode cX7_spreadFound 5 = .ok (.aload_n 0, 1) := by decide +kernel
theorem dX7_spreadFound_6 : decode cX7_spreadFound 6 = .ok (.getfield 18, 3) := by decide +kernel
theorem dX7_spreadFound_9 : decode cX7_spreadFound 9 = .ok (.invokevirtual 24, 3) := by decide +kernel
theorem dX7_spreadFound_12 : decode cX7_spreadFound 12 = .ok (.if_icmp .ge 121, 3) := by decide +kernel
theorem dX7_spreadFound_15 : decode cX7_spreadFound 15 = .ok (.aload_n 0, 1) := by decide +kernel
theorem dX7_spreadFound_16 : decode cX7_spreadFound 16 = .ok (.getfield 18, 3) := by decide +kernel
theorem dX7_spreadFound_19 : decode cX7_spreadFound 19 = .ok (.iload_n 3, 1) := by decide +kernel
theorem dX7_spreadFound_20 : decode cX7_spreadFound 20 = .ok (.invokevirtual 28, 3) := by decide +kernel
theorem dX7_spreadFound_23 : decode cX7_spreadFound 23 = .ok (.checkcast 51, 3) := by decide +kernel
theorem dX7_spreadFound_26 : decode cX7_spreadFound 26 = .ok (.astore 4, 2) := by decide +kernel
theorem dX7_spreadFound_28 : decode cX7_spreadFound 28 = .ok (.aload 4, 2) := by decide +kernel
theorem dX7_spreadFound_30 : decode cX7_spreadFound 30 = .ok (.getfield 70, 3) := by decide +kernel
theorem dX7_spreadFound_33 : decode cX7_spreadFound 33 = .ok (.ifCond .eq 24, 3) := by decide +kernel
theorem dX7_spreadFound_36 : decode cX7_spreadFound 36 = .ok (.aload 4, 2) := by decide +kernel
theorem dX7_spreadFound_38 : decode cX7_spreadFound 38 = .ok (.getfield 84, 3) := by decide +kernel
theorem dX7_spreadFound_41 : decode cX7_spreadFound 41 = .ok (.ifCond .ne 12, 3) := by decide +kernel
theorem dX7_spreadFound_44 : decode cX7_spreadFound 44 = .ok (.aload 4, 2) := by decide +kernel
theorem dX7_spreadFound_46 : decode cX7_spreadFound 46 = .ok (.aload_n 1, 1) := by decide +kernel
theorem dX7_spreadFound_47 : decode cX7_spreadFound 47 = .ok (.invokestatic 195, 3) := by decide +kernel
theorem dX7_spreadFound_50 : decode cX7_spreadFound 50 = .ok (.ifCond .eq 7, 3) := by decide +kernel
theorem dX7_spreadFound_53 : decode cX7_spreadFound 53 = .ok (.iconst 1, 1) := by decide +kernel
theorem dX7_spreadFound_54 : decode cX7_spreadFound 54 = .ok (.goto 4, 3) := by decide +kernel
theorem dX7_spreadFound_57 : decode cX7_spreadFound 57 = .ok (.iconst 0, 1) := by decide +kernel
theorem dX7_spreadFound_58 : decode cX7_spreadFound 58 = .ok (.istore 5, 2) := by decide +kernel
theorem dX7_spreadFound_60 : decode cX7_spreadFound 60 = .ok (.aload 4, 2) := by decide +kernel
theorem dX7_spreadFound_62 : decode cX7_spreadFound 62 = .ok (.getfield 70, 3) := by decide +kernel
theorem dX7_spreadFound_65 : decode cX7_spreadFound 65 = .ok (.ifCond .eq 23, 3) := by decide +kernel
theorem dX7_spreadFound_68 : decode cX7_spreadFound 68 = .ok (.aload 4, 2) := by decide +kernel
theorem dX7_spreadFound_70 : decode cX7_spreadFound 70 = .ok (.getfield 74, 3) := by decide +kernel
theorem dX7_spreadFound_73 : decode cX7_spreadFound 73 = .ok (.ifCond .ne 11, 3) := by decide +kernel
theorem dX7_spreadFound_76 : decode cX7_spreadFound 76 = .ok (.aload 4, 2) := by decide +kernel
theorem dX7_spreadFound_78 : decode cX7_spreadFound 78 = .ok (.invokestatic 199, 3) := by decide +kernel
theorem dX7_spreadFound_81 : decode cX7_spreadFound 81 = .ok (.ifCond .eq 7, 3) := by decide +kernel
theorem dX7_spreadFound_84 : decode cX7_spreadFound 84 = .ok (.iconst 1, 1) := by decide +kernel
theorem dX7_spreadFound_85 : decode cX7_spreadFound 85 = .ok (.goto 4, 3) := by decide +kernel
theorem dX7_spreadFound_88 : decode cX7_spreadFound 88 = .ok (.iconst 0, 1) := by decide +kernel
theorem dX7_spreadFound_89 : decode cX7_spreadFound 89 = .ok (.istore 6, 2) := by decide +kernel
theorem dX7_spreadFound_91 : decode cX7_spreadFound 91 = .ok (.iload 5, 2) := by decide +kernel
theorem dX7_spreadFound_93 : decode cX7_spreadFound 93 = .ok (.aload 4, 2) := by decide +kernel
theorem dX7_spreadFound_95 : decode cX7_spreadFound 95 = .ok (.getfield 84, 3) := by decide +kernel
theorem dX7_spreadFound_98 : decode cX7_spreadFound 98 = .ok (.if_icmp .ne 13, 3) := by decide +kernel
theorem dX7_spreadFound_101 : decode cX7_spreadFound 101 = .ok (.iload 6, 2) := by decide +kernel
theorem dX7_spreadFound_103 : decode cX7_spreadFound 103 = .ok (.aload 4, 2) := by decide +kernel
theorem dX7_spreadFound_105 : decode cX7_spreadFound 105 = .ok (.getfield 74, 3) := by decide +kernel
theorem dX7_spreadFound_108 : decode cX7_spreadFound 108 = .ok (.if_icmp .eq 5, 3) := by decide +kernel
theorem dX7_spreadFound_111 : decode cX7_spreadFound 111 = .ok (.iconst 1, 1) := by decide +kernel
theorem dX7_spreadFound_112 : decode cX7_spreadFound 112 = .ok (.istore_n 2, 1) := by decide +kernel
theorem dX7_spreadFound_113 : decode cX7_spreadFound 113 = .ok (.aload 4, 2) := by decide +kernel
theorem dX7_spreadFound_115 : decode cX7_spreadFound 115 = .ok (.iload 5, 2) := by decide +kernel
theorem dX7_spreadFound_117 : decode cX7_spreadFound 117 = .ok (.putfield 84, 3) := by decide +kernel
theorem dX7_spreadFound_120 : decode cX7_spreadFound 120 = .ok (.aload 4, 2) := by decide +kernel
theorem dX7_spreadFound_122 : decode cX7_spreadFound 122 = .ok (.iload 6, 2) := by decide +kernel
theorem dX7_spreadFound_124 : decode cX7_spreadFound 124 = .ok (.putfield 74, 3) := by decide +kernel
theorem dX7_spreadFound_127 : decode cX7_spreadFound 127 = .ok (.iinc 3 1, 3) := by decide +kernel
theorem dX7_spreadFound_130 : decode cX7_spreadFound 130 = .ok (.goto (-126), 3) := by decide +kernel
theorem dX7_spreadFound_133 : decode cX7_spreadFound 133 = .ok (.iload_n 2, 1) := by decide +kernel
theorem dX7_spreadFound_134 : decode cX7_spreadFound 134 = .ok (.ireturn, 1) := by decide +kernel
theorem dX10_typeCount_0 : decode cX10_typeCount 0 = .ok (.aload_n 0, 1) := by decide +kernel
theorem dX10_typeCount_1 : decode cX10_typeCount 1 = .ok (.getfield 9, 3) := by decide +kernel
theorem dX10_typeCount_4 : decode cX10_typeCount 4 = .ok (.ireturn, 1) := by decide +kernel
theorem dX10_constructorCount_0 : decode cX10_constructorCount 0 = .ok (.aload_n 0, 1) := by decide +kernel
theorem dX10_constructorCount_1 : decode cX10_constructorCount 1 = .ok (.getfield 20, 3) := by decide +kernel
theorem dX10_constructorCount_4 : decode cX10_constructorCount 4 = .ok (.invokevirtual 38, 3) := by decide +kernel
theorem dX10_constructorCount_7 : decode cX10_constructorCount 7 = .ok (.ireturn, 1) := by decide +kernel
theorem dX10_termCount_0 : decode cX10_termCount 0 = .ok (.aload_n 0, 1) := by decide +kernel
theorem dX10_termCount_1 : decode cX10_termCount 1 = .ok (.getfield 24, 3) := by decide +kernel
theorem dX10_termCount_4 : decode cX10_termCount 4 = .ok (.invokevirtual 38, 3) := by decide +kernel
theorem dX10_termCount_7 : decode cX10_termCount 7 = .ok (.ireturn, 1) := by decide +kernel
theorem dX10_hasType_0 : decode cX10_hasType 0 = .ok (.iload_n 1, 1) := by decide +kernel
theorem dX10_hasType_1 : decode cX10_hasType 1 = .ok (.ifCond .lt 15, 3) := by decide +kernel
theorem dX10_hasType_4 : decode cX10_hasType 4 = .ok (.iload_n 1, 1) := by decide +kernel
theorem dX10_hasType_5 : decode cX10_hasType 5 = .ok (.aload_n 0, 1) := by decide +kernel
theorem dX10_hasType_6 : decode cX10_hasType 6 = .ok (.getfield 9, 3) := by decide +kernel
theorem dX10_hasType_9 : decode cX10_hasType 9 = .ok (.if_icmp .ge 7, 3) := by decide +kernel
theorem dX10_hasType_12 : decode cX10_hasType 12 = .ok (.iconst 1, 1) := by decide +kernel
theorem dX10_hasType_13 : decode cX10_hasType 13 = .ok (.goto 4, 3) := by decide +kernel
theorem dX10_hasType_16 : decode cX10_hasType 16 = .ok (.iconst 0, 1) := by decide +kernel
theorem dX10_hasType_17 : decode cX10_hasType 17 = .ok (.ireturn, 1) := by decide +kernel
theorem dX10_hasConstructor_0 : decode cX10_hasConstructor 0 = .ok (.iload_n 1, 1) := by decide +kernel
theorem dX10_hasConstructor_1 : decode cX10_hasConstructor 1 = .ok (.ifCond .lt 18, 3) := by decide +kernel
theorem dX10_hasConstructor_4 : decode cX10_hasConstructor 4 = .ok (.iload_n 1, 1) := by decide +kernel
theorem dX10_hasConstructor_5 : decode cX10_hasConstructor 5 = .ok (.aload_n 0, 1) := by decide +kernel
theorem dX10_hasConstructor_6 : decode cX10_hasConstructor 6 = .ok (.getfield 20, 3) := by decide +kernel
theorem dX10_hasConstructor_9 : decode cX10_hasConstructor 9 = .ok (.invokevirtual 38, 3) := by decide +kernel
theorem dX10_hasConstructor_12 : decode cX10_hasConstructor 12 = .ok (.if_icmp .ge 7, 3) := by decide +kernel
theorem dX10_hasConstructor_15 : decode cX10_hasConstructor 15 = .ok (.iconst 1, 1) := by decide +kernel
theorem dX10_hasConstructor_16 : decode cX10_hasConstructor 16 = .ok (.goto 4, 3) := by decide +kernel
theorem dX10_hasConstructor_19 : decode cX10_hasConstructor 19 = .ok (.iconst 0, 1) := by decide +kernel
theorem dX10_hasConstructor_20 : decode cX10_hasConstructor 20 = .ok (.ireturn, 1) := by decide +kernel
theorem dX10_hasTerm_0 : decode cX10_hasTerm 0 = .ok (.iload_n 1, 1) := by decide +kernel
theorem dX10_hasTerm_1 : decode cX10_hasTerm 1 = .ok (.ifCond .lt 18, 3) := by decide +kernel
theorem dX10_hasTerm_4 : decode cX10_hasTerm 4 = .ok (.iload_n 1, 1) := by decide +kernel
theorem dX10_hasTerm_5 : decode cX10_hasTerm 5 = .ok (.aload_n 0, 1) := by decide +kernel
theorem dX10_hasTerm_6 : decode cX10_hasTerm 6 = .ok (.getfield 24, 3) := by decide +kernel
theorem dX10_hasTerm_9 : decode cX10_hasTerm 9 = .ok (.invokevirtual 38, 3) := by decide +kernel
theorem dX10_hasTerm_12 : decode cX10_hasTerm 12 = .ok (.if_icmp .ge 7, 3) := by decide +kernel
theorem dX10_hasTerm_15 : decode cX10_hasTerm 15 = .ok (.iconst 1, 1) := by decide +kernel
theorem dX10_hasTerm_16 : decode cX10_hasTerm 16 = .ok (.goto 4, 3) := by decide +kernel
theorem dX10_hasTerm_19 : decode cX10_hasTerm 19 = .ok (.iconst 0, 1) := by decide +kernel
theorem dX10_hasTerm_20 : decode cX10_hasTerm 20 = .ok (.ireturn, 1) := by decide +kernel
theorem dX10_newType_0 : decode cX10_newType 0 = .ok (.aload_n 0, 1) := by decide +kernel
theorem dX10_newType_1 : decode cX10_newType 1 = .ok (.dup, 1) := by decide +kernel
theorem dX10_newType_2 : decode cX10_newType 2 = .ok (.getfield 9, 3) := by decide +kernel
theorem dX10_newType_5 : decode cX10_newType 5 = .ok (.iconst 1, 1) := by decide +kernel
theorem dX10_newType_6 : decode cX10_newType 6 = .ok (.iadd, 1) := by decide +kernel
theorem dX10_newType_7 : decode cX10_newType 7 = .ok (.putfield 9, 3) := by decide +kernel
theorem dX10_newType_10 : decode cX10_newType 10 = .ok (.aload_n 0, 1) := by decide +kernel
theorem dX10_newType_11 : decode cX10_newType 11 = .ok (.getfield 9, 3) := by decide +kernel
theorem dX10_newType_14 : decode cX10_newType 14 = .ok (.iconst 1, 1) := by decide +kernel
theorem dX10_newType_15 : decode cX10_newType 15 = .ok (.isub, 1) := by decide +kernel
theorem dX10_newType_16 : decode cX10_newType 16 = .ok (.ireturn, 1) := by decide +kernel
set_option maxRecDepth 20000 in
theorem ggX11_addType_X10_typeCount : GoodIn wsX11_addType wsX10_typeCount := goodIn_r _ [9, 10, 24, 25, 26, 27, 28] (by decide +kernel) (by decide +kernel)
set_option maxRecDepth 20000 in
theorem gX11_addType_X10_typeCount : GoodIn wsX11_addType (wsV RX11 63 RX10 yX10_typeCount wsX10_typeCount) := goodIn_app (goodIn_of _ (by decide +kernel)) ggX11_addType_X10_typeCount
set_option maxRecDepth 20000 in
theorem ggX11_addType_X10_newType : GoodIn wsX11_addType wsX10_newType := goodIn_r _ [14, 10, 24, 25, 26, 27, 28] (by decide +kernel) (by decide +kernel)
set_option maxRecDepth 20000 in
theorem gX11_addType_X10_newType : GoodIn wsX11_addType (wsV RX11 70 RX10 yX10_newType wsX10_newType) := goodIn_app (goodIn_of _ (by decide +kernel)) ggX11_addType_X10_newType
theorem dX11_addType_0 : decode cX11_addType 0 = .ok (.aload_n 0, 1) := by decide +kernel
theorem dX11_addType_1 : decode cX11_addType 1 = .ok (.getfield 10, 3) := by decide +kernel
theorem dX11_addType_4 : decode cX11_addType 4 = .ok (.invokevirtual 63, 3) := by decide +kernel
theorem dX11_addType_7 : decode cX11_addType 7 = .ok (.iconst 3, 1) := by decide +kernel
theorem dX11_addType_8 : decode cX11_addType 8 = .ok (.if_icmp .ge 10, 3) := by decide +kernel
theorem dX11_addType_11 : decode cX11_addType 11 = .ok (.aload_n 0, 1) := by decide +kernel
theorem dX11_addType_12 : decode cX11_addType 12 = .ok (.getfield 51, 3) := by decide +kernel
theorem dX11_addType_15 : decode cX11_addType 15 = .ok (.ifCond .eq 11, 3) := by decide +kernel
theorem dX11_addType_18 : decode cX11_addType 18 = .ok (.new 67, 3) := by decide +kernel
theorem dX11_addType_21 : decode cX11_addType 21 = .ok (.dup, 1) := by decide +kernel
theorem dX11_addType_22 : decode cX11_addType 22 = .ok (.invokespecial 69, 3) := by decide +kernel
theorem dX11_addType_25 : decode cX11_addType 25 = .ok (.athrow, 1) := by decide +kernel
theorem dX11_addType_26 : decode cX11_addType 26 = .ok (.aload_n 0, 1) := by decide +kernel
theorem dX11_addType_27 : decode cX11_addType 27 = .ok (.getfield 10, 3) := by decide +kernel
theorem dX11_addType_30 : decode cX11_addType 30 = .ok (.invokevirtual 70, 3) := by decide +kernel
theorem dX11_addType_33 : decode cX11_addType 33 = .ok (.ireturn, 1) := by decide +kernel
set_option maxRecDepth 20000 in
theorem ggX11_addConstructor_X10_hasType : GoodIn wsX11_addConstructor wsX10_hasType := goodIn_r _ [13, 14, 86, 87, 88, 89, 90] (by decide +kernel) (by decide +kernel)
set_option maxRecDepth 20000 in
theorem gX11_addConstructor_X10_hasType : GoodIn wsX11_addConstructor (wsV RX11 73 RX10 yX10_hasType wsX10_hasType) := goodIn_app (goodIn_of _ (by decide +kernel)) ggX11_addConstructor_X10_hasType
set_option maxRecDepth 20000 in
theorem ggX11_addConstructor_X11_isTypeOrNone : GoodIn wsX11_addConstructor wsX11_isTypeOrNone := goodIn_r _ [19, 7, 9, 10, 11, 12, 13, 14, 77, 78, 79, 80, 81, 82, 83, 84, 85, 86, 87, 88, 89, 90] (by decide +kernel) (by decide +kernel)
set_option maxRecDepth 20000 in
theorem gX11_addConstructor_X11_isTypeOrNone : GoodIn wsX11_addConstructor (wsV RX11 77 RX11 yX11_isTypeOrNone wsX11_isTypeOrNone) := goodIn_app (goodIn_of _ (by decide +kernel)) ggX11_addConstructor_X11_isTypeOrNone
set_option maxRecDepth 20000 in
theorem ggX11_addConstructor_X10_constructorCount : GoodIn wsX11_addConstructor wsX10_constructorCount := goodIn_r _ [23, 24, 25, 26, 27, 28, 29, 30, 86, 87, 88, 89, 90, 91, 92, 93] (by decide +kernel) (by decide +kernel)
set_option maxRecDepth 20000 in
theorem gX11_addConstructor_X10_constructorCount : GoodIn wsX11_addConstructor (wsV RX11 86 RX10 yX10_constructorCount wsX10_constructorCount) := goodIn_app (goodIn_of _ (by decide +kernel)) ggX11_addConstructor_X10_constructorCount
theorem dX11_addConstructor_0 : decode cX11_addConstructor 0 = .ok (.aload_n 0, 1) := by decide +kernel
theorem dX11_addConstructor_1 : decode cX11_addConstructor 1 = .ok (.getfield 10, 3) := by decide +kernel
theorem dX11_addConstructor_4 : decode cX11_addConstructor 4 = .ok (.iload_n 1, 1) := by decide +kernel
theorem dX11_addConstructor_5 : decode cX11_addConstructor 5 = .ok (.invokevirtual 73, 3) := by decide +kernel
theorem dX11_addConstructor_8 : decode cX11_addConstructor 8 = .ok (.ifCond .eq 19, 3) := by decide +kernel
theorem dX11_addConstructor_11 : decode cX11_addConstructor 11 = .ok (.aload_n 0, 1) := by decide +kernel
theorem dX11_addConstructor_12 : decode cX11_addConstructor 12 = .ok (.iload_n 2, 1) := by decide +kernel
theorem dX11_addConstructor_13 : decode cX11_addConstructor 13 = .ok (.invokevirtual 77, 3) := by decide +kernel
theorem dX11_addConstructor_16 : decode cX11_addConstructor 16 = .ok (.ifCond .eq 11, 3) := by decide +kernel
theorem dX11_addConstructor_19 : decode cX11_addConstructor 19 = .ok (.aload_n 0, 1) := by decide +kernel
theorem dX11_addConstructor_20 : decode cX11_addConstructor 20 = .ok (.iload_n 3, 1) := by decide +kernel
theorem dX11_addConstructor_21 : decode cX11_addConstructor 21 = .ok (.invokevirtual 77, 3) := by decide +kernel
theorem dX11_addConstructor_24 : decode cX11_addConstructor 24 = .ok (.ifCond .ne 11, 3) := by decide +kernel
theorem dX11_addConstructor_27 : decode cX11_addConstructor 27 = .ok (.new 80, 3) := by decide +kernel
theorem dX11_addConstructor_30 : decode cX11_addConstructor 30 = .ok (.dup, 1) := by decide +kernel
theorem dX11_addConstructor_31 : decode cX11_addConstructor 31 = .ok (.invokespecial 82, 3) := by decide +kernel
theorem dX11_addConstructor_34 : decode cX11_addConstructor 34 = .ok (.athrow, 1) := by decide +kernel
theorem dX11_addConstructor_35 : decode cX11_addConstructor 35 = .ok (.iload_n 2, 1) := by decide +kernel
theorem dX11_addConstructor_36 : decode cX11_addConstructor 36 = .ok (.iconst (-1), 1) := by decide +kernel
theorem dX11_addConstructor_37 : decode cX11_addConstructor 37 = .ok (.if_icmp .ne 16, 3) := by decide +kernel
theorem dX11_addConstructor_40 : decode cX11_addConstructor 40 = .ok (.iload_n 3, 1) := by decide +kernel
theorem dX11_addConstructor_41 : decode cX11_addConstructor 41 = .ok (.iconst (-1), 1) := by decide +kernel
theorem dX11_addConstructor_42 : decode cX11_addConstructor 42 = .ok (.if_icmp .eq 11, 3) := by decide +kernel
theorem dX11_addConstructor_45 : decode cX11_addConstructor 45 = .ok (.new 83, 3) := by decide +kernel
theorem dX11_addConstructor_48 : decode cX11_addConstructor 48 = .ok (.dup, 1) := by decide +kernel
theorem dX11_addConstructor_49 : decode cX11_addConstructor 49 = .ok (.invokespecial 85, 3) := by decide +kernel
theorem dX11_addConstructor_52 : decode cX11_addConstructor 52 = .ok (.athrow, 1) := by decide +kernel
theorem dX11_addConstructor_53 : decode cX11_addConstructor 53 = .ok (.aload_n 0, 1) := by decide +kernel
theorem dX11_addConstructor_54 : decode cX11_addConstructor 54 = .ok (.getfield 10, 3) := by decide +kernel
theorem dX11_addConstructor_57 : decode cX11_addConstructor 57 = .ok (.invokevirtual 86, 3) := by decide +kernel
theorem dX11_addConstructor_60 : decode cX11_addConstructor 60 = .ok (.bipush 10, 2) := by decide +kernel
theorem dX11_addConstructor_62 : decode cX11_addConstructor 62 = .ok (.if_icmp .ge 10, 3) := by decide +kernel
theorem dX11_addConstructor_65 : decode cX11_addConstructor 65 = .ok (.aload_n 0, 1) := by decide +kernel
theorem dX11_addConstructor_66 : decode cX11_addConstructor 66 = .ok (.getfield 51, 3) := by decide +kernel
theorem dX11_addConstructor_69 : decode cX11_addConstructor 69 = .ok (.ifCond .eq 11, 3) := by decide +kernel
theorem dX11_addConstructor_72 : decode cX11_addConstructor 72 = .ok (.new 67, 3) := by decide +kernel
theorem dX11_addConstructor_75 : decode cX11_addConstructor 75 = .ok (.dup, 1) := by decide +kernel
theorem dX11_addConstructor_76 : decode cX11_addConstructor 76 = .ok (.invokespecial 69, 3) := by decide +kernel
theorem dX11_addConstructor_79 : decode cX11_addConstructor 79 = .ok (.athrow, 1) := by decide +kernel
theorem dX11_addConstructor_80 : decode cX11_addConstructor 80 = .ok (.aload_n 0, 1) := by decide +kernel
theorem dX11_addConstructor_81 : decode cX11_addConstructor 81 = .ok (.getfield 10, 3) := by decide +kernel
theorem dX11_addConstructor_84 : decode cX11_addConstructor 84 = .ok (.iload_n 1, 1) := by decide +kernel
theorem dX11_addConstructor_85 : decode cX11_addConstructor 85 = .ok (.iload_n 2, 1) := by decide +kernel
theorem dX11_addConstructor_86 : decode cX11_addConstructor 86 = .ok (.iload_n 3, 1) := by decide +kernel
theorem dX11_addConstructor_87 : decode cX11_addConstructor 87 = .ok (.invokevirtual 89, 3) := by decide +kernel
theorem dX11_addConstructor_90 : decode cX11_addConstructor 90 = .ok (.ireturn, 1) := by decide +kernel
set_option maxRecDepth 20000 in
theorem ggX11_term_X10_hasConstructor : GoodIn wsX11_term wsX10_hasConstructor := goodIn_r _ [12, 13, 14, 15, 16, 17, 18, 19, 126, 127, 128, 129, 130, 131, 132, 133] (by decide +kernel) (by decide +kernel)
set_option maxRecDepth 20000 in
theorem gX11_term_X10_hasConstructor : GoodIn wsX11_term (wsV RX11 93 RX10 yX10_hasConstructor wsX10_hasConstructor) := goodIn_app (goodIn_of _ (by decide +kernel)) ggX11_term_X10_hasConstructor
theorem dX11_term_0 : decode cX11_term 0 = .ok (.aload_n 0, 1) := by decide +kernel
theorem dX11_term_1 : decode cX11_term 1 = .ok (.getfield 10, 3) := by decide +kernel
theorem dX11_term_4 : decode cX11_term 4 = .ok (.iload_n 1, 1) := by decide +kernel
theorem dX11_term_5 : decode cX11_term 5 = .ok (.invokevirtual 93, 3) := by decide +kernel
theorem dX11_term_8 : decode cX11_term 8 = .ok (.ifCond .eq 16, 3) := by decide +kernel
theorem dX11_term_11 : decode cX11_term 11 = .ok (.aload_n 0, 1) := by decide +kernel
theorem dX11_term_12 : decode cX11_term 12 = .ok (.getfield 10, 3) := by decide +kernel
theorem dX11_term_15 : decode cX11_term 15 = .ok (.iload_n 1, 1) := by decide +kernel
theorem dX11_term_16 : decode cX11_term 16 = .ok (.iload_n 2, 1) := by decide +kernel
theorem dX11_term_17 : decode cX11_term 17 = .ok (.iload_n 3, 1) := by decide +kernel
theorem dX11_term_18 : decode cX11_term 18 = .ok (.invokevirtual 96, 3) := by decide +kernel
theorem dX11_term_21 : decode cX11_term 21 = .ok (.ifCond .ne 11, 3) := by decide +kernel
theorem dX11_term_24 : decode cX11_term 24 = .ok (.new 80, 3) := by decide +kernel
theorem dX11_term_27 : decode cX11_term 27 = .ok (.dup, 1) := by decide +kernel
theorem dX11_term_28 : decode cX11_term 28 = .ok (.invokespecial 82, 3) := by decide +kernel
theorem dX11_term_31 : decode cX11_term 31 = .ok (.athrow, 1) := by decide +kernel
theorem dX11_term_32 : decode cX11_term 32 = .ok (.aload_n 0, 1) := by decide +kernel
theorem dX11_term_33 : decode cX11_term 33 = .ok (.getfield 10, 3) := by decide +kernel
theorem dX11_term_36 : decode cX11_term 36 = .ok (.iload_n 1, 1) := by decide +kernel
theorem dX11_term_37 : decode cX11_term 37 = .ok (.iload_n 2, 1) := by decide +kernel
theorem dX11_term_38 : decode cX11_term 38 = .ok (.iload_n 3, 1) := by decide +kernel
theorem dX11_term_39 : decode cX11_term 39 = .ok (.invokevirtual 100, 3) := by decide +kernel
theorem dX11_term_42 : decode cX11_term 42 = .ok (.ifCond .ne 11, 3) := by decide +kernel
theorem dX11_term_45 : decode cX11_term 45 = .ok (.new 83, 3) := by decide +kernel
theorem dX11_term_48 : decode cX11_term 48 = .ok (.dup, 1) := by decide +kernel
theorem dX11_term_49 : decode cX11_term 49 = .ok (.invokespecial 85, 3) := by decide +kernel
theorem dX11_term_52 : decode cX11_term 52 = .ok (.athrow, 1) := by decide +kernel
theorem dX11_term_53 : decode cX11_term 53 = .ok (.aload_n 0, 1) := by decide +kernel
theorem dX11_term_54 : decode cX11_term 54 = .ok (.getfield 10, 3) := by decide +kernel
theorem dX11_term_57 : decode cX11_term 57 = .ok (.iload_n 1, 1) := by decide +kernel
theorem dX11_term_58 : decode cX11_term 58 = .ok (.iload_n 2, 1) := by decide +kernel
theorem dX11_term_59 : decode cX11_term 59 = .ok (.iload_n 3, 1) := by decide +kernel
theorem dX11_term_60 : decode cX11_term 60 = .ok (.invokevirtual 103, 3) := by decide +kernel
theorem dX11_term_63 : decode cX11_term 63 = .ok (.istore 4, 2) := by decide +kernel
theorem dX11_term_65 : decode cX11_term 65 = .ok (.iload 4, 2) := by decide +kernel
theorem dX11_term_67 : decode cX11_term 67 = .ok (.iconst (-1), 1) := by decide +kernel
theorem dX11_term_68 : decode cX11_term 68 = .ok (.if_icmp .ne 11, 3) := by decide +kernel
theorem dX11_term_71 : decode cX11_term 71 = .ok (.new 67, 3) := by decide +kernel
theorem dX11_term_74 : decode cX11_term 74 = .ok (.dup, 1) := by decide +kernel
theorem dX11_term_75 : decode cX11_term 75 = .ok (.invokespecial 69, 3) := by decide +kernel
theorem dX11_term_78 : decode cX11_term 78 = .ok (.athrow, 1) := by decide +kernel
theorem dX11_term_79 : decode cX11_term 79 = .ok (.iload 4, 2) := by decide +kernel
theorem dX11_term_81 : decode cX11_term 81 = .ok (.ireturn, 1) := by decide +kernel
set_option maxRecDepth 20000 in
theorem ggX11_constructorOf_X11_refuseMissingTerm : GoodIn wsX11_constructorOf wsX11_refuseMissingTerm := goodIn_ca (goodIn_r _ [6, 7, 8, 1, 9, 10, 11, 12, 13, 14, 15, 16, 17, 18, 19, 20, 31, 32, 33, 34, 35, 36, 37, 38, 39, 40, 41, 42, 43, 44, 45, 46, 47] (by decide +kernel) (by decide +kernel)) (goodIn_sub (fun _ h => List.mem_cons_of_mem _ (List.mem_append_left _ (List.mem_append_right _ h))) (by decide +kernel))
set_option maxRecDepth 20000 in
theorem gX11_constructorOf_X11_refuseMissingTerm : GoodIn wsX11_constructorOf (wsV RX11 106 RX11 yX11_refuseMissingTerm wsX11_refuseMissingTerm) := goodIn_app (goodIn_of _ (by decide +kernel)) ggX11_constructorOf_X11_refuseMissingTerm
theorem dX11_constructorOf_0 : decode cX11_constructorOf 0 = .ok (.aload_n 0, 1) := by decide +kernel
theorem dX11_constructorOf_1 : decode cX11_constructorOf 1 = .ok (.iload_n 1, 1) := by decide +kernel
theorem dX11_constructorOf_2 : decode cX11_constructorOf 2 = .ok (.invokevirtual 106, 3) := by decide +kernel
theorem dX11_constructorOf_5 : decode cX11_constructorOf 5 = .ok (.aload_n 0, 1) := by decide +kernel
theorem dX11_constructorOf_6 : decode cX11_constructorOf 6 = .ok (.getfield 10, 3) := by decide +kernel
theorem dX11_constructorOf_9 : decode cX11_constructorOf 9 = .ok (.iload_n 1, 1) := by decide +kernel
theorem dX11_constructorOf_10 : decode cX11_constructorOf 10 = .ok (.invokevirtual 110, 3) := by decide +kernel
theorem dX11_constructorOf_13 : decode cX11_constructorOf 13 = .ok (.ireturn, 1) := by decide +kernel
set_option maxRecDepth 20000 in
theorem ggX11_partOf_X11_refuseMissingTerm : GoodIn wsX11_partOf wsX11_refuseMissingTerm := goodIn_ca (goodIn_r _ [8, 9, 10, 3, 11, 12, 13, 14, 15, 16, 17, 18, 19, 20, 21, 22, 42, 43, 44, 45, 46, 47, 48, 49, 50, 51, 52, 53, 54, 55, 56, 57, 58] (by decide +kernel) (by decide +kernel)) (goodIn_sub (fun _ h => List.mem_cons_of_mem _ (List.mem_append_left _ (List.mem_append_right _ h))) (by decide +kernel))
set_option maxRecDepth 20000 in
theorem gX11_partOf_X11_refuseMissingTerm : GoodIn wsX11_partOf (wsV RX11 106 RX11 yX11_refuseMissingTerm wsX11_refuseMissingTerm) := goodIn_app (goodIn_of _ (by decide +kernel)) ggX11_partOf_X11_refuseMissingTerm
theorem dX11_partOf_0 : decode cX11_partOf 0 = .ok (.aload_n 0, 1) := by decide +kernel
theorem dX11_partOf_1 : decode cX11_partOf 1 = .ok (.iload_n 1, 1) := by decide +kernel
theorem dX11_partOf_2 : decode cX11_partOf 2 = .ok (.invokevirtual 106, 3) := by decide +kernel
theorem dX11_partOf_5 : decode cX11_partOf 5 = .ok (.iload_n 2, 1) := by decide +kernel
theorem dX11_partOf_6 : decode cX11_partOf 6 = .ok (.ifCond .lt 22, 3) := by decide +kernel
theorem dX11_partOf_9 : decode cX11_partOf 9 = .ok (.iload_n 2, 1) := by decide +kernel
theorem dX11_partOf_10 : decode cX11_partOf 10 = .ok (.aload_n 0, 1) := by decide +kernel
theorem dX11_partOf_11 : decode cX11_partOf 11 = .ok (.getfield 10, 3) := by decide +kernel
theorem dX11_partOf_14 : decode cX11_partOf 14 = .ok (.aload_n 0, 1) := by decide +kernel
theorem dX11_partOf_15 : decode cX11_partOf 15 = .ok (.getfield 10, 3) := by decide +kernel
theorem dX11_partOf_18 : decode cX11_partOf 18 = .ok (.iload_n 1, 1) := by decide +kernel
theorem dX11_partOf_19 : decode cX11_partOf 19 = .ok (.invokevirtual 110, 3) := by decide +kernel
theorem dX11_partOf_22 : decode cX11_partOf 22 = .ok (.invokevirtual 114, 3) := by decide +kernel
theorem dX11_partOf_25 : decode cX11_partOf 25 = .ok (.if_icmp .lt 11, 3) := by decide +kernel
theorem dX11_partOf_28 : decode cX11_partOf 28 = .ok (.new 117, 3) := by decide +kernel
theorem dX11_partOf_31 : decode cX11_partOf 31 = .ok (.dup, 1) := by decide +kernel
theorem dX11_partOf_32 : decode cX11_partOf 32 = .ok (.invokespecial 119, 3) := by decide +kernel
theorem dX11_partOf_35 : decode cX11_partOf 35 = .ok (.athrow, 1) := by decide +kernel
theorem dX11_partOf_36 : decode cX11_partOf 36 = .ok (.aload_n 0, 1) := by decide +kernel
theorem dX11_partOf_37 : decode cX11_partOf 37 = .ok (.getfield 10, 3) := by decide +kernel
theorem dX11_partOf_40 : decode cX11_partOf 40 = .ok (.iload_n 1, 1) := by decide +kernel
theorem dX11_partOf_41 : decode cX11_partOf 41 = .ok (.iload_n 2, 1) := by decide +kernel
theorem dX11_partOf_42 : decode cX11_partOf 42 = .ok (.invokevirtual 120, 3) := by decide +kernel
theorem dX11_partOf_45 : decode cX11_partOf 45 = .ok (.ireturn, 1) := by decide +kernel
set_option maxRecDepth 20000 in
theorem ggX11_sizeOf_X11_refuseMissingTerm : GoodIn wsX11_sizeOf wsX11_refuseMissingTerm := goodIn_ca (goodIn_r _ [6, 7, 8, 1, 9, 10, 11, 12, 13, 14, 15, 16, 17, 18, 19, 20, 26, 27, 28, 29, 30, 31, 32, 33, 34, 35, 36, 37, 38, 39, 40, 41, 42] (by decide +kernel) (by decide +kernel)) (goodIn_sub (fun _ h => List.mem_cons_of_mem _ (List.mem_append_left _ (List.mem_append_right _ h))) (by decide +kernel))
set_option maxRecDepth 20000 in
theorem gX11_sizeOf_X11_refuseMissingTerm : GoodIn wsX11_sizeOf (wsV RX11 106 RX11 yX11_refuseMissingTerm wsX11_refuseMissingTerm) := goodIn_app (goodIn_of _ (by decide +kernel)) ggX11_sizeOf_X11_refuseMissingTerm
theorem dX11_sizeOf_0 : decode cX11_sizeOf 0 = .ok (.aload_n 0, 1) := by decide +kernel
theorem dX11_sizeOf_1 : decode cX11_sizeOf 1 = .ok (.iload_n 1, 1) := by decide +kernel
theorem dX11_sizeOf_2 : decode cX11_sizeOf 2 = .ok (.invokevirtual 106, 3) := by decide +kernel
theorem dX11_sizeOf_5 : decode cX11_sizeOf 5 = .ok (.aload_n 0, 1) := by decide +kernel
theorem dX11_sizeOf_6 : decode cX11_sizeOf 6 = .ok (.getfield 10, 3) := by decide +kernel
theorem dX11_sizeOf_9 : decode cX11_sizeOf 9 = .ok (.iload_n 1, 1) := by decide +kernel
theorem dX11_sizeOf_10 : decode cX11_sizeOf 10 = .ok (.invokevirtual 124, 3) := by decide +kernel
theorem dX11_sizeOf_13 : decode cX11_sizeOf 13 = .ok (.lreturn, 1) := by decide +kernel
set_option maxRecDepth 20000 in
theorem ggX11_addPredicate_X11_isTypeOrNone : GoodIn wsX11_addPredicate wsX11_isTypeOrNone := goodIn_r _ [13, 14, 15, 16, 17, 18, 19, 20, 174, 175, 176, 177, 178, 179, 180, 181, 182, 183, 184, 185, 186, 187] (by decide +kernel) (by decide +kernel)
set_option maxRecDepth 20000 in
theorem gX11_addPredicate_X11_isTypeOrNone : GoodIn wsX11_addPredicate (wsV RX11 77 RX11 yX11_isTypeOrNone wsX11_isTypeOrNone) := goodIn_app (goodIn_of _ (by decide +kernel)) ggX11_addPredicate_X11_isTypeOrNone
set_option maxRecDepth 20000 in
theorem ggX11_addPredicate_X7_predicateCount : GoodIn wsX11_addPredicate wsX7_predicateCount := goodIn_r _ [25, 26, 27, 28, 29, 30, 31, 32, 188, 189, 190, 191, 192, 193] (by decide +kernel) (by decide +kernel)
set_option maxRecDepth 20000 in
theorem gX11_addPredicate_X7_predicateCount : GoodIn wsX11_addPredicate (wsV RX11 128 RX7 yX7_predicateCount wsX7_predicateCount) := goodIn_app (goodIn_of _ (by decide +kernel)) ggX11_addPredicate_X7_predicateCount
set_option maxRecDepth 20000 in
theorem ggX11_addPredicate_X7_newPredicate : GoodIn wsX11_addPredicate wsX7_newPredicate := goodIn_ca (goodIn_r _ [36, 26, 37, 38, 39, 27, 28, 29, 30, 31, 32, 40, 41, 42, 43, 44, 45, 46, 47, 48, 49, 50, 51, 52, 53, 54, 55, 56, 57, 58, 59, 60, 61, 62, 63, 64, 65, 66, 67, 68, 12, 69, 70, 71, 72, 73, 74, 75, 76, 77, 78, 79, 80, 81, 82, 83, 84, 85, 86, 87, 88, 89, 90, 91, 92, 93, 94, 95, 96, 97, 98, 99, 100, 101, 102, 103, 104, 105, 106, 107, 108, 109, 110, 111, 112, 113, 114, 115, 116, 117, 118, 119, 120, 121, 122, 123, 124, 125, 126, 127, 128, 129, 130, 131, 132, 133, 134, 135, 136, 137, 138, 139, 140, 141, 142, 143, 144, 145, 146, 147, 148, 149, 150, 151, 152, 153, 154, 155, 156, 157, 158, 159, 160, 161, 162, 163, 164, 165, 166, 167, 168, 169, 170, 171, 172, 173, 188, 189, 190, 194, 195, 196, 197, 198, 191, 192, 193, 199, 200, 201, 202, 203, 204, 205, 206, 207, 208, 209, 210, 211, 212, 213, 214, 215] (by decide +kernel) (by decide +kernel)) (goodIn_sub (fun _ h => List.mem_cons_of_mem _ (List.mem_append_right _ h)) (by decide +kernel))
set_option maxRecDepth 20000 in
theorem gX11_addPredicate_X7_newPredicate : GoodIn wsX11_addPredicate (wsV RX11 131 RX7 yX7_newPredicate wsX7_newPredicate) := goodIn_app (goodIn_of _ (by decide +kernel)) ggX11_addPredicate_X7_newPredicate
theorem dX11_addPredicate_0 : decode cX11_addPredicate 0 = .ok (.aload_n 0, 1) := by decide +kernel
theorem dX11_addPredicate_1 : decode cX11_addPredicate 1 = .ok (.iload_n 1, 1) := by decide +kernel
theorem dX11_addPredicate_2 : decode cX11_addPredicate 2 = .ok (.invokevirtual 77, 3) := by decide +kernel
theorem dX11_addPredicate_5 : decode cX11_addPredicate 5 = .ok (.ifCond .eq 19, 3) := by decide +kernel
theorem dX11_addPredicate_8 : decode cX11_addPredicate 8 = .ok (.aload_n 0, 1) := by decide +kernel
theorem dX11_addPredicate_9 : decode cX11_addPredicate 9 = .ok (.iload_n 2, 1) := by decide +kernel
theorem dX11_addPredicate_10 : decode cX11_addPredicate 10 = .ok (.invokevirtual 77, 3) := by decide +kernel
theorem dX11_addPredicate_13 : decode cX11_addPredicate 13 = .ok (.ifCond .eq 11, 3) := by decide +kernel
theorem dX11_addPredicate_16 : decode cX11_addPredicate 16 = .ok (.aload_n 0, 1) := by decide +kernel
theorem dX11_addPredicate_17 : decode cX11_addPredicate 17 = .ok (.iload_n 3, 1) := by decide +kernel
theorem dX11_addPredicate_18 : decode cX11_addPredicate 18 = .ok (.invokevirtual 77, 3) := by decide +kernel
theorem dX11_addPredicate_21 : decode cX11_addPredicate 21 = .ok (.ifCond .ne 11, 3) := by decide +kernel
theorem dX11_addPredicate_24 : decode cX11_addPredicate 24 = .ok (.new 80, 3) := by decide +kernel
theorem dX11_addPredicate_27 : decode cX11_addPredicate 27 = .ok (.dup, 1) := by decide +kernel
theorem dX11_addPredicate_28 : decode cX11_addPredicate 28 = .ok (.invokespecial 82, 3) := by decide +kernel
theorem dX11_addPredicate_31 : decode cX11_addPredicate 31 = .ok (.athrow, 1) := by decide +kernel
theorem dX11_addPredicate_32 : decode cX11_addPredicate 32 = .ok (.iload_n 1, 1) := by decide +kernel
theorem dX11_addPredicate_33 : decode cX11_addPredicate 33 = .ok (.iconst (-1), 1) := by decide +kernel
theorem dX11_addPredicate_34 : decode cX11_addPredicate 34 = .ok (.if_icmp .ne 8, 3) := by decide +kernel
theorem dX11_addPredicate_37 : decode cX11_addPredicate 37 = .ok (.iload_n 2, 1) := by decide +kernel
theorem dX11_addPredicate_38 : decode cX11_addPredicate 38 = .ok (.iconst (-1), 1) := by decide +kernel
theorem dX11_addPredicate_39 : decode cX11_addPredicate 39 = .ok (.if_icmp .ne 13, 3) := by decide +kernel
theorem dX11_addPredicate_42 : decode cX11_addPredicate 42 = .ok (.iload_n 2, 1) := by decide +kernel
theorem dX11_addPredicate_43 : decode cX11_addPredicate 43 = .ok (.iconst (-1), 1) := by decide +kernel
theorem dX11_addPredicate_44 : decode cX11_addPredicate 44 = .ok (.if_icmp .ne 16, 3) := by decide +kernel
theorem dX11_addPredicate_47 : decode cX11_addPredicate 47 = .ok (.iload_n 3, 1) := by decide +kernel
theorem dX11_addPredicate_48 : decode cX11_addPredicate 48 = .ok (.iconst (-1), 1) := by decide +kernel
theorem dX11_addPredicate_49 : decode cX11_addPredicate 49 = .ok (.if_icmp .eq 11, 3) := by decide +kernel
theorem dX11_addPredicate_52 : decode cX11_addPredicate 52 = .ok (.new 83, 3) := by decide +kernel
theorem dX11_addPredicate_55 : decode cX11_addPredicate 55 = .ok (.dup, 1) := by decide +kernel
theorem dX11_addPredicate_56 : decode cX11_addPredicate 56 = .ok (.invokespecial 85, 3) := by decide +kernel
theorem dX11_addPredicate_59 : decode cX11_addPredicate 59 = .ok (.athrow, 1) := by decide +kernel
theorem dX11_addPredicate_60 : decode cX11_addPredicate 60 = .ok (.aload_n 0, 1) := by decide +kernel
theorem dX11_addPredicate_61 : decode cX11_addPredicate 61 = .ok (.getfield 19, 3) := by decide +kernel
theorem dX11_addPredicate_64 : decode cX11_addPredicate 64 = .ok (.invokevirtual 128, 3) := by decide +kernel
theorem dX11_addPredicate_67 : decode cX11_addPredicate 67 = .ok (.iconst 5, 1) := by decide +kernel
theorem dX11_addPredicate_68 : decode cX11_addPredicate 68 = .ok (.if_icmp .ge 10, 3) := by decide +kernel
theorem dX11_addPredicate_71 : decode cX11_addPredicate 71 = .ok (.aload_n 0, 1) := by decide +kernel
theorem dX11_addPredicate_72 : decode cX11_addPredicate 72 = .ok (.getfield 51, 3) := by decide +kernel
theorem dX11_addPredicate_75 : decode cX11_addPredicate 75 = .ok (.ifCond .eq 11, 3) := by decide +kernel
theorem dX11_addPredicate_78 : decode cX11_addPredicate 78 = .ok (.new 67, 3) := by decide +kernel
theorem dX11_addPredicate_81 : decode cX11_addPredicate 81 = .ok (.dup, 1) := by decide +kernel
theorem dX11_addPredicate_82 : decode cX11_addPredicate 82 = .ok (.invokespecial 69, 3) := by decide +kernel
theorem dX11_addPredicate_85 : decode cX11_addPredicate 85 = .ok (.athrow, 1) := by decide +kernel
theorem dX11_addPredicate_86 : decode cX11_addPredicate 86 = .ok (.aload_n 0, 1) := by decide +kernel
theorem dX11_addPredicate_87 : decode cX11_addPredicate 87 = .ok (.getfield 19, 3) := by decide +kernel
theorem dX11_addPredicate_90 : decode cX11_addPredicate 90 = .ok (.iload_n 1, 1) := by decide +kernel
theorem dX11_addPredicate_91 : decode cX11_addPredicate 91 = .ok (.iload_n 2, 1) := by decide +kernel
theorem dX11_addPredicate_92 : decode cX11_addPredicate 92 = .ok (.iload_n 3, 1) := by decide +kernel
theorem dX11_addPredicate_93 : decode cX11_addPredicate 93 = .ok (.invokevirtual 131, 3) := by decide +kernel
theorem dX11_addPredicate_96 : decode cX11_addPredicate 96 = .ok (.ireturn, 1) := by decide +kernel
set_option maxRecDepth 20000 in
theorem ggX11_addMode_X7_predicateAt : GoodIn wsX11_addMode wsX7_predicateAt := goodIn_r _ [13, 14, 15, 16, 17, 18, 19, 20, 21, 22, 23, 24, 25, 26, 27, 28, 29, 30, 31, 32, 33, 34, 35, 36, 37, 38, 142, 143, 144, 145, 146, 147] (by decide +kernel) (by decide +kernel)
set_option maxRecDepth 20000 in
theorem gX11_addMode_X7_predicateAt : GoodIn wsX11_addMode (wsV RX11 134 RX7 yX7_predicateAt wsX7_predicateAt) := goodIn_app (goodIn_of _ (by decide +kernel)) ggX11_addMode_X7_predicateAt
set_option maxRecDepth 20000 in
theorem ggX11_addMode_X11_isPromise : GoodIn wsX11_addMode wsX11_isPromise := goodIn_r _ [54] (by decide +kernel) (by decide +kernel)
set_option maxRecDepth 20000 in
theorem gX11_addMode_X11_isPromise : GoodIn wsX11_addMode (va_wsS RX11 143 yX11_isPromise wsX11_isPromise) := goodIn_app (goodIn_of _ (by decide +kernel)) ggX11_addMode_X11_isPromise
theorem dX11_addMode_0 : decode cX11_addMode 0 = .ok (.aload_n 0, 1) := by decide +kernel
theorem dX11_addMode_1 : decode cX11_addMode 1 = .ok (.getfield 19, 3) := by decide +kernel
theorem dX11_addMode_4 : decode cX11_addMode 4 = .ok (.iload_n 1, 1) := by decide +kernel
theorem dX11_addMode_5 : decode cX11_addMode 5 = .ok (.invokevirtual 134, 3) := by decide +kernel
theorem dX11_addMode_8 : decode cX11_addMode 8 = .ok (.astore 4, 2) := by decide +kernel
theorem dX11_addMode_10 : decode cX11_addMode 10 = .ok (.aload 4, 2) := by decide +kernel
theorem dX11_addMode_12 : decode cX11_addMode 12 = .ok (.ifnonnull 11, 3) := by decide +kernel
theorem dX11_addMode_15 : decode cX11_addMode 15 = .ok (.new 80, 3) := by decide +kernel
theorem dX11_addMode_18 : decode cX11_addMode 18 = .ok (.dup, 1) := by decide +kernel
theorem dX11_addMode_19 : decode cX11_addMode 19 = .ok (.invokespecial 82, 3) := by decide +kernel
theorem dX11_addMode_22 : decode cX11_addMode 22 = .ok (.athrow, 1) := by decide +kernel
theorem dX11_addMode_23 : decode cX11_addMode 23 = .ok (.iload_n 2, 1) := by decide +kernel
theorem dX11_addMode_24 : decode cX11_addMode 24 = .ok (.aload 4, 2) := by decide +kernel
theorem dX11_addMode_26 : decode cX11_addMode 26 = .ok (.invokevirtual 138, 3) := by decide +kernel
theorem dX11_addMode_29 : decode cX11_addMode 29 = .ok (.iconst (-1), 1) := by decide +kernel
theorem dX11_addMode_30 : decode cX11_addMode 30 = .ok (.ixor, 1) := by decide +kernel
theorem dX11_addMode_31 : decode cX11_addMode 31 = .ok (.iand, 1) := by decide +kernel
theorem dX11_addMode_32 : decode cX11_addMode 32 = .ok (.ifCond .ne 10, 3) := by decide +kernel
theorem dX11_addMode_35 : decode cX11_addMode 35 = .ok (.iload_n 3, 1) := by decide +kernel
theorem dX11_addMode_36 : decode cX11_addMode 36 = .ok (.invokestatic 143, 3) := by decide +kernel
theorem dX11_addMode_39 : decode cX11_addMode 39 = .ok (.ifCond .ne 11, 3) := by decide +kernel
theorem dX11_addMode_42 : decode cX11_addMode 42 = .ok (.new 83, 3) := by decide +kernel
theorem dX11_addMode_45 : decode cX11_addMode 45 = .ok (.dup, 1) := by decide +kernel
theorem dX11_addMode_46 : decode cX11_addMode 46 = .ok (.invokespecial 85, 3) := by decide +kernel
theorem dX11_addMode_49 : decode cX11_addMode 49 = .ok (.athrow, 1) := by decide +kernel
theorem dX11_addMode_50 : decode cX11_addMode 50 = .ok (.aload 4, 2) := by decide +kernel
theorem dX11_addMode_52 : decode cX11_addMode 52 = .ok (.invokevirtual 147, 3) := by decide +kernel
theorem dX11_addMode_55 : decode cX11_addMode 55 = .ok (.iconst 2, 1) := by decide +kernel
theorem dX11_addMode_56 : decode cX11_addMode 56 = .ok (.if_icmp .ge 10, 3) := by decide +kernel
theorem dX11_addMode_59 : decode cX11_addMode 59 = .ok (.aload_n 0, 1) := by decide +kernel
theorem dX11_addMode_60 : decode cX11_addMode 60 = .ok (.getfield 51, 3) := by decide +kernel
theorem dX11_addMode_63 : decode cX11_addMode 63 = .ok (.ifCond .eq 11, 3) := by decide +kernel
theorem dX11_addMode_66 : decode cX11_addMode 66 = .ok (.new 67, 3) := by decide +kernel
theorem dX11_addMode_69 : decode cX11_addMode 69 = .ok (.dup, 1) := by decide +kernel
theorem dX11_addMode_70 : decode cX11_addMode 70 = .ok (.invokespecial 69, 3) := by decide +kernel
theorem dX11_addMode_73 : decode cX11_addMode 73 = .ok (.athrow, 1) := by decide +kernel
theorem dX11_addMode_74 : decode cX11_addMode 74 = .ok (.aload_n 0, 1) := by decide +kernel
theorem dX11_addMode_75 : decode cX11_addMode 75 = .ok (.getfield 19, 3) := by decide +kernel
theorem dX11_addMode_78 : decode cX11_addMode 78 = .ok (.aload 4, 2) := by decide +kernel
theorem dX11_addMode_80 : decode cX11_addMode 80 = .ok (.iload_n 2, 1) := by decide +kernel
theorem dX11_addMode_81 : decode cX11_addMode 81 = .ok (.iload_n 3, 1) := by decide +kernel
theorem dX11_addMode_82 : decode cX11_addMode 82 = .ok (.invokevirtual 150, 3) := by decide +kernel
theorem dX11_addMode_85 : decode cX11_addMode 85 = .ok (.ireturn, 1) := by decide +kernel
set_option maxRecDepth 20000 in
theorem ggX11_addClause_X7_predicateAt : GoodIn wsX11_addClause wsX7_predicateAt := goodIn_r _ [11, 12, 13, 14, 15, 16, 17, 18, 19, 20, 21, 22, 23, 24, 25, 26, 27, 28, 29, 30, 31, 32, 33, 34, 35, 36, 194, 195, 196, 197, 198, 199] (by decide +kernel) (by decide +kernel)
set_option maxRecDepth 20000 in
theorem gX11_addClause_X7_predicateAt : GoodIn wsX11_addClause (wsV RX11 134 RX7 yX7_predicateAt wsX7_predicateAt) := goodIn_app (goodIn_of _ (by decide +kernel)) ggX11_addClause_X7_predicateAt
set_option maxRecDepth 20000 in
theorem ggX11_addClause_X7_clauseCount : GoodIn wsX11_addClause wsX7_clauseCount := goodIn_r _ [40, 41, 14, 15, 16, 17, 18, 19, 194, 195, 196, 197, 198, 199] (by decide +kernel) (by decide +kernel)
set_option maxRecDepth 20000 in
theorem gX11_addClause_X7_clauseCount : GoodIn wsX11_addClause (wsV RX11 154 RX7 yX7_clauseCount wsX7_clauseCount) := goodIn_app (goodIn_of _ (by decide +kernel)) ggX11_addClause_X7_clauseCount
theorem dX11_addClause_0 : decode cX11_addClause 0 = .ok (.aload_n 0, 1) := by decide +kernel
theorem dX11_addClause_1 : decode cX11_addClause 1 = .ok (.getfield 19, 3) := by decide +kernel
theorem dX11_addClause_4 : decode cX11_addClause 4 = .ok (.iload_n 1, 1) := by decide +kernel
theorem dX11_addClause_5 : decode cX11_addClause 5 = .ok (.invokevirtual 134, 3) := by decide +kernel
theorem dX11_addClause_8 : decode cX11_addClause 8 = .ok (.astore_n 2, 1) := by decide +kernel
theorem dX11_addClause_9 : decode cX11_addClause 9 = .ok (.aload_n 2, 1) := by decide +kernel
theorem dX11_addClause_10 : decode cX11_addClause 10 = .ok (.ifnonnull 11, 3) := by decide +kernel
theorem dX11_addClause_13 : decode cX11_addClause 13 = .ok (.new 80, 3) := by decide +kernel
theorem dX11_addClause_16 : decode cX11_addClause 16 = .ok (.dup, 1) := by decide +kernel
theorem dX11_addClause_17 : decode cX11_addClause 17 = .ok (.invokespecial 82, 3) := by decide +kernel
theorem dX11_addClause_20 : decode cX11_addClause 20 = .ok (.athrow, 1) := by decide +kernel
theorem dX11_addClause_21 : decode cX11_addClause 21 = .ok (.aload_n 0, 1) := by decide +kernel
theorem dX11_addClause_22 : decode cX11_addClause 22 = .ok (.getfield 19, 3) := by decide +kernel
theorem dX11_addClause_25 : decode cX11_addClause 25 = .ok (.invokevirtual 154, 3) := by decide +kernel
theorem dX11_addClause_28 : decode cX11_addClause 28 = .ok (.bipush 12, 2) := by decide +kernel
theorem dX11_addClause_30 : decode cX11_addClause 30 = .ok (.if_icmp .ge 10, 3) := by decide +kernel
theorem dX11_addClause_33 : decode cX11_addClause 33 = .ok (.aload_n 0, 1) := by decide +kernel
theorem dX11_addClause_34 : decode cX11_addClause 34 = .ok (.getfield 51, 3) := by decide +kernel
theorem dX11_addClause_37 : decode cX11_addClause 37 = .ok (.ifCond .eq 11, 3) := by decide +kernel
theorem dX11_addClause_40 : decode cX11_addClause 40 = .ok (.new 67, 3) := by decide +kernel
theorem dX11_addClause_43 : decode cX11_addClause 43 = .ok (.dup, 1) := by decide +kernel
theorem dX11_addClause_44 : decode cX11_addClause 44 = .ok (.invokespecial 69, 3) := by decide +kernel
theorem dX11_addClause_47 : decode cX11_addClause 47 = .ok (.athrow, 1) := by decide +kernel
theorem dX11_addClause_48 : decode cX11_addClause 48 = .ok (.aload_n 0, 1) := by decide +kernel
theorem dX11_addClause_49 : decode cX11_addClause 49 = .ok (.getfield 19, 3) := by decide +kernel
theorem dX11_addClause_52 : decode cX11_addClause 52 = .ok (.aload_n 2, 1) := by decide +kernel
theorem dX11_addClause_53 : decode cX11_addClause 53 = .ok (.invokevirtual 157, 3) := by decide +kernel
theorem dX11_addClause_56 : decode cX11_addClause 56 = .ok (.ireturn, 1) := by decide +kernel
set_option maxRecDepth 20000 in
theorem ggX11_addBuild_X7_clauseAt : GoodIn wsX11_addBuild wsX7_clauseAt := goodIn_r _ [12, 13, 14, 15, 16, 17, 18, 19, 20, 21, 22, 23, 24, 25, 26, 27, 28, 29, 30, 31, 32, 33, 34, 35, 36, 37, 194, 195, 196, 197, 198, 199] (by decide +kernel) (by decide +kernel)
set_option maxRecDepth 20000 in
theorem gX11_addBuild_X7_clauseAt : GoodIn wsX11_addBuild (wsV RX11 161 RX7 yX7_clauseAt wsX7_clauseAt) := goodIn_app (goodIn_of _ (by decide +kernel)) ggX11_addBuild_X7_clauseAt
set_option maxRecDepth 20000 in
theorem ggX11_addBuild_X10_hasConstructor : GoodIn wsX11_addBuild wsX10_hasConstructor := goodIn_r _ [42, 43, 44, 45, 46, 47, 48, 49, 200, 201, 202, 203, 204, 205, 206, 207] (by decide +kernel) (by decide +kernel)
set_option maxRecDepth 20000 in
theorem gX11_addBuild_X10_hasConstructor : GoodIn wsX11_addBuild (wsV RX11 93 RX10 yX10_hasConstructor wsX10_hasConstructor) := goodIn_app (goodIn_of _ (by decide +kernel)) ggX11_addBuild_X10_hasConstructor
set_option maxRecDepth 20000 in
theorem ggX11_addBuild_X11_areVariables : GoodIn wsX11_addBuild wsX11_areVariables := goodIn_r _ [53] (by decide +kernel) (by decide +kernel)
set_option maxRecDepth 20000 in
theorem gX11_addBuild_X11_areVariables : GoodIn wsX11_addBuild (va_wsS RX11 165 yX11_areVariables wsX11_areVariables) := goodIn_app (goodIn_of _ (by decide +kernel)) ggX11_addBuild_X11_areVariables
set_option maxRecDepth 20000 in
theorem ggX11_addBuild_X3_init : GoodIn wsX11_addBuild wsX3_init := goodIn_ca (goodIn_r _ [66, 67, 68, 69, 70, 71, 72, 73, 74, 190, 191, 192, 193] (by decide +kernel) (by decide +kernel)) (goodIn_sub (fun _ h => List.mem_cons_of_mem _ (List.mem_append_left _ (List.mem_append_left _ (List.mem_append_right _ h)))) (by decide +kernel))
set_option maxRecDepth 20000 in
theorem gX11_addBuild_X3_init : GoodIn wsX11_addBuild (wsX3_init) := ggX11_addBuild_X3_init
set_option maxRecDepth 20000 in
theorem ggX11_addBuild_X11_addGoal : GoodIn wsX11_addBuild wsX11_addGoal := goodIn_ca (goodIn_ca (goodIn_ca (goodIn_r _ [86, 87, 88, 89, 90, 91, 92, 93, 94, 7, 95, 72, 96, 97, 98, 99, 74, 100, 101, 102, 103, 104, 105, 52, 106, 107, 108, 109, 110, 111, 112, 113, 59, 60, 47, 61, 62, 49, 63, 114, 115, 116, 117, 118, 119, 16, 17, 18, 19, 20, 120, 121, 122, 123, 124, 125, 126, 127, 128, 129, 130, 131, 132, 133, 37, 134, 135, 136, 137, 138, 139, 140, 141, 142, 143, 144, 145, 146, 147, 148, 149, 150, 151, 152, 153, 154, 155, 156, 157, 158, 159, 160, 161, 162, 163, 164, 165, 166, 167, 168, 169, 170, 171, 172, 173, 174, 175, 176, 177, 178, 179, 180, 181, 182, 183, 184, 185, 186, 187, 188, 189, 190, 191, 192, 193, 208, 209, 210, 211, 212, 213, 214, 215, 216, 205, 206, 207, 197, 198, 199] (by decide +kernel) (by decide +kernel)) (goodIn_sub (fun _ h => List.mem_cons_of_mem _ (List.mem_append_left _ (List.mem_append_right _ h))) (by decide +kernel))) (goodIn_sub (fun _ h => List.mem_cons_of_mem _ (List.mem_append_right _ h)) (by decide +kernel))) (goodIn_sub (fun _ h => List.mem_cons_of_mem _ (List.mem_append_left _ (List.mem_append_left _ (List.mem_append_right _ h)))) (by decide +kernel))
set_option maxRecDepth 20000 in
theorem gX11_addBuild_X11_addGoal : GoodIn wsX11_addBuild (wsV RX11 179 RX11 yX11_addGoal wsX11_addGoal) := goodIn_app (goodIn_of _ (by decide +kernel)) ggX11_addBuild_X11_addGoal
theorem dX11_addBuild_0 : decode cX11_addBuild 0 = .ok (.aload_n 0, 1) := by decide +kernel
theorem dX11_addBuild_1 : decode cX11_addBuild 1 = .ok (.getfield 19, 3) := by decide +kernel
theorem dX11_addBuild_4 : decode cX11_addBuild 4 = .ok (.iload_n 1, 1) := by decide +kernel
theorem dX11_addBuild_5 : decode cX11_addBuild 5 = .ok (.invokevirtual 161, 3) := by decide +kernel
theorem dX11_addBuild_8 : decode cX11_addBuild 8 = .ok (.astore 6, 2) := by decide +kernel
theorem dX11_addBuild_10 : decode cX11_addBuild 10 = .ok (.aload 6, 2) := by decide +kernel
theorem dX11_addBuild_12 : decode cX11_addBuild 12 = .ok (.ifnull 25, 3) := by decide +kernel
theorem dX11_addBuild_15 : decode cX11_addBuild 15 = .ok (.aload_n 0, 1) := by decide +kernel
theorem dX11_addBuild_16 : decode cX11_addBuild 16 = .ok (.getfield 10, 3) := by decide +kernel
theorem dX11_addBuild_19 : decode cX11_addBuild 19 = .ok (.iload_n 3, 1) := by decide +kernel
theorem dX11_addBuild_20 : decode cX11_addBuild 20 = .ok (.invokevirtual 93, 3) := by decide +kernel
theorem dX11_addBuild_23 : decode cX11_addBuild 23 = .ok (.ifCond .eq 14, 3) := by decide +kernel
theorem dX11_addBuild_26 : decode cX11_addBuild 26 = .ok (.iload_n 2, 1) := by decide +kernel
theorem dX11_addBuild_27 : decode cX11_addBuild 27 = .ok (.iload 4, 2) := by decide +kernel
theorem dX11_addBuild_29 : decode cX11_addBuild 29 = .ok (.iload 5, 2) := by decide +kernel
theorem dX11_addBuild_31 : decode cX11_addBuild 31 = .ok (.invokestatic 165, 3) := by decide +kernel
theorem dX11_addBuild_34 : decode cX11_addBuild 34 = .ok (.ifCond .ne 11, 3) := by decide +kernel
theorem dX11_addBuild_37 : decode cX11_addBuild 37 = .ok (.new 80, 3) := by decide +kernel
theorem dX11_addBuild_40 : decode cX11_addBuild 40 = .ok (.dup, 1) := by decide +kernel
theorem dX11_addBuild_41 : decode cX11_addBuild 41 = .ok (.invokespecial 82, 3) := by decide +kernel
theorem dX11_addBuild_44 : decode cX11_addBuild 44 = .ok (.athrow, 1) := by decide +kernel
theorem dX11_addBuild_45 : decode cX11_addBuild 45 = .ok (.new 168, 3) := by decide +kernel
theorem dX11_addBuild_48 : decode cX11_addBuild 48 = .ok (.dup, 1) := by decide +kernel
theorem dX11_addBuild_49 : decode cX11_addBuild 49 = .ok (.iconst 0, 1) := by decide +kernel
theorem dX11_addBuild_50 : decode cX11_addBuild 50 = .ok (.iload_n 3, 1) := by decide +kernel
theorem dX11_addBuild_51 : decode cX11_addBuild 51 = .ok (.iconst 1, 1) := by decide +kernel
theorem dX11_addBuild_52 : decode cX11_addBuild 52 = .ok (.aload_n 0, 1) := by decide +kernel
theorem dX11_addBuild_53 : decode cX11_addBuild 53 = .ok (.getfield 10, 3) := by decide +kernel
theorem dX11_addBuild_56 : decode cX11_addBuild 56 = .ok (.iload_n 3, 1) := by decide +kernel
theorem dX11_addBuild_57 : decode cX11_addBuild 57 = .ok (.invokevirtual 114, 3) := by decide +kernel
theorem dX11_addBuild_60 : decode cX11_addBuild 60 = .ok (.iadd, 1) := by decide +kernel
theorem dX11_addBuild_61 : decode cX11_addBuild 61 = .ok (.iload_n 2, 1) := by decide +kernel
theorem dX11_addBuild_62 : decode cX11_addBuild 62 = .ok (.iload 4, 2) := by decide +kernel
theorem dX11_addBuild_64 : decode cX11_addBuild 64 = .ok (.iload 5, 2) := by decide +kernel
theorem dX11_addBuild_66 : decode cX11_addBuild 66 = .ok (.invokespecial 170, 3) := by decide +kernel
theorem dX11_addBuild_69 : decode cX11_addBuild 69 = .ok (.astore 7, 2) := by decide +kernel
theorem dX11_addBuild_71 : decode cX11_addBuild 71 = .ok (.aload_n 0, 1) := by decide +kernel
theorem dX11_addBuild_72 : decode cX11_addBuild 72 = .ok (.getfield 10, 3) := by decide +kernel
theorem dX11_addBuild_75 : decode cX11_addBuild 75 = .ok (.iload_n 3, 1) := by decide +kernel
theorem dX11_addBuild_76 : decode cX11_addBuild 76 = .ok (.invokevirtual 173, 3) := by decide +kernel
theorem dX11_addBuild_79 : decode cX11_addBuild 79 = .ok (.istore 8, 2) := by decide +kernel
theorem dX11_addBuild_81 : decode cX11_addBuild 81 = .ok (.aload_n 0, 1) := by decide +kernel
theorem dX11_addBuild_82 : decode cX11_addBuild 82 = .ok (.getfield 10, 3) := by decide +kernel
theorem dX11_addBuild_85 : decode cX11_addBuild 85 = .ok (.iload_n 3, 1) := by decide +kernel
theorem dX11_addBuild_86 : decode cX11_addBuild 86 = .ok (.iconst 0, 1) := by decide +kernel
theorem dX11_addBuild_87 : decode cX11_addBuild 87 = .ok (.invokevirtual 176, 3) := by decide +kernel
theorem dX11_addBuild_90 : decode cX11_addBuild 90 = .ok (.istore 9, 2) := by decide +kernel
theorem dX11_addBuild_92 : decode cX11_addBuild 92 = .ok (.aload_n 0, 1) := by decide +kernel
theorem dX11_addBuild_93 : decode cX11_addBuild 93 = .ok (.getfield 10, 3) := by decide +kernel
theorem dX11_addBuild_96 : decode cX11_addBuild 96 = .ok (.iload_n 3, 1) := by decide +kernel
theorem dX11_addBuild_97 : decode cX11_addBuild 97 = .ok (.iconst 1, 1) := by decide +kernel
theorem dX11_addBuild_98 : decode cX11_addBuild 98 = .ok (.invokevirtual 176, 3) := by decide +kernel
theorem dX11_addBuild_101 : decode cX11_addBuild 101 = .ok (.istore 10, 2) := by decide +kernel
theorem dX11_addBuild_103 : decode cX11_addBuild 103 = .ok (.aload_n 0, 1) := by decide +kernel
theorem dX11_addBuild_104 : decode cX11_addBuild 104 = .ok (.aload 6, 2) := by decide +kernel
theorem dX11_addBuild_106 : decode cX11_addBuild 106 = .ok (.aload 7, 2) := by decide +kernel
theorem dX11_addBuild_108 : decode cX11_addBuild 108 = .ok (.iload 8, 2) := by decide +kernel
theorem dX11_addBuild_110 : decode cX11_addBuild 110 = .ok (.iload 9, 2) := by decide +kernel
theorem dX11_addBuild_112 : decode cX11_addBuild 112 = .ok (.iload 10, 2) := by decide +kernel
theorem dX11_addBuild_114 : decode cX11_addBuild 114 = .ok (.invokevirtual 179, 3) := by decide +kernel
theorem dX11_addBuild_117 : decode cX11_addBuild 117 = .ok (.ireturn, 1) := by decide +kernel
set_option maxRecDepth 20000 in
theorem ggX11_addSame_X7_clauseAt : GoodIn wsX11_addSame wsX7_clauseAt := goodIn_r _ [13, 14, 15, 16, 17, 18, 19, 20, 21, 22, 23, 24, 25, 26, 27, 28, 29, 30, 31, 32, 33, 34, 35, 36, 37, 38, 171, 172, 173, 174, 175, 176] (by decide +kernel) (by decide +kernel)
set_option maxRecDepth 20000 in
theorem gX11_addSame_X7_clauseAt : GoodIn wsX11_addSame (wsV RX11 161 RX7 yX7_clauseAt wsX7_clauseAt) := goodIn_app (goodIn_of _ (by decide +kernel)) ggX11_addSame_X7_clauseAt
set_option maxRecDepth 20000 in
theorem ggX11_addSame_X11_areVariables : GoodIn wsX11_addSame wsX11_areVariables := goodIn_r _ [42] (by decide +kernel) (by decide +kernel)
set_option maxRecDepth 20000 in
theorem gX11_addSame_X11_areVariables : GoodIn wsX11_addSame (va_wsS RX11 165 yX11_areVariables wsX11_areVariables) := goodIn_app (goodIn_of _ (by decide +kernel)) ggX11_addSame_X11_areVariables
set_option maxRecDepth 20000 in
theorem ggX11_addSame_X3_init : GoodIn wsX11_addSame wsX3_init := goodIn_ca (goodIn_r _ [59, 60, 61, 62, 63, 64, 65, 66, 67, 167, 168, 169, 170] (by decide +kernel) (by decide +kernel)) (goodIn_sub (fun _ h => List.mem_cons_of_mem _ (List.mem_append_left _ (List.mem_append_right _ h))) (by decide +kernel))
set_option maxRecDepth 20000 in
theorem gX11_addSame_X3_init : GoodIn wsX11_addSame (wsX3_init) := ggX11_addSame_X3_init
set_option maxRecDepth 20000 in
theorem ggX11_addSame_X11_addGoal : GoodIn wsX11_addSame wsX11_addGoal := goodIn_ca (goodIn_ca (goodIn_ca (goodIn_r _ [71, 3, 4, 72, 73, 74, 75, 76, 77, 8, 78, 65, 79, 80, 81, 82, 67, 83, 84, 85, 46, 86, 87, 41, 88, 89, 90, 44, 45, 47, 48, 49, 50, 51, 52, 53, 54, 55, 56, 91, 92, 93, 94, 95, 96, 17, 18, 19, 20, 21, 97, 98, 99, 100, 101, 102, 103, 104, 105, 106, 107, 108, 109, 110, 38, 111, 112, 113, 114, 115, 116, 117, 118, 119, 120, 121, 122, 123, 124, 125, 126, 127, 128, 129, 130, 131, 132, 133, 134, 135, 136, 137, 138, 139, 140, 141, 142, 143, 144, 145, 146, 147, 148, 149, 150, 151, 152, 153, 154, 155, 156, 157, 158, 159, 160, 161, 162, 163, 164, 165, 166, 167, 168, 169, 170, 177, 178, 179, 180, 181, 182, 183, 184, 185, 186, 187, 188, 174, 175, 176] (by decide +kernel) (by decide +kernel)) (goodIn_sub (fun _ h => List.mem_cons_of_mem _ (List.mem_append_left _ (List.mem_append_left _ (List.mem_append_right _ h)))) (by decide +kernel))) (goodIn_sub (fun _ h => List.mem_cons_of_mem _ (List.mem_append_right _ h)) (by decide +kernel))) (goodIn_sub (fun _ h => List.mem_cons_of_mem _ (List.mem_append_left _ (List.mem_append_right _ h))) (by decide +kernel))
set_option maxRecDepth 20000 in
theorem gX11_addSame_X11_addGoal : GoodIn wsX11_addSame (wsV RX11 179 RX11 yX11_addGoal wsX11_addGoal) := goodIn_app (goodIn_of _ (by decide +kernel)) ggX11_addSame_X11_addGoal
theorem dX11_addSame_0 : decode cX11_addSame 0 = .ok (.aload_n 0, 1) := by decide +kernel
theorem dX11_addSame_1 : decode cX11_addSame 1 = .ok (.getfield 19, 3) := by decide +kernel
theorem dX11_addSame_4 : decode cX11_addSame 4 = .ok (.iload_n 1, 1) := by decide +kernel
theorem dX11_addSame_5 : decode cX11_addSame 5 = .ok (.invokevirtual 161, 3) := by decide +kernel
theorem dX11_addSame_8 : decode cX11_addSame 8 = .ok (.astore 4, 2) := by decide +kernel
theorem dX11_addSame_10 : decode cX11_addSame 10 = .ok (.aload 4, 2) := by decide +kernel
theorem dX11_addSame_12 : decode cX11_addSame 12 = .ok (.ifnull 12, 3) := by decide +kernel
theorem dX11_addSame_15 : decode cX11_addSame 15 = .ok (.iload_n 2, 1) := by decide +kernel
theorem dX11_addSame_16 : decode cX11_addSame 16 = .ok (.iload_n 3, 1) := by decide +kernel
theorem dX11_addSame_17 : decode cX11_addSame 17 = .ok (.iconst 0, 1) := by decide +kernel
theorem dX11_addSame_18 : decode cX11_addSame 18 = .ok (.invokestatic 165, 3) := by decide +kernel
theorem dX11_addSame_21 : decode cX11_addSame 21 = .ok (.ifCond .ne 11, 3) := by decide +kernel
theorem dX11_addSame_24 : decode cX11_addSame 24 = .ok (.new 80, 3) := by decide +kernel
theorem dX11_addSame_27 : decode cX11_addSame 27 = .ok (.dup, 1) := by decide +kernel
theorem dX11_addSame_28 : decode cX11_addSame 28 = .ok (.invokespecial 82, 3) := by decide +kernel
theorem dX11_addSame_31 : decode cX11_addSame 31 = .ok (.athrow, 1) := by decide +kernel
theorem dX11_addSame_32 : decode cX11_addSame 32 = .ok (.aload 4, 2) := by decide +kernel
theorem dX11_addSame_34 : decode cX11_addSame 34 = .ok (.iload_n 2, 1) := by decide +kernel
theorem dX11_addSame_35 : decode cX11_addSame 35 = .ok (.invokevirtual 183, 3) := by decide +kernel
theorem dX11_addSame_38 : decode cX11_addSame 38 = .ok (.iconst (-1), 1) := by decide +kernel
theorem dX11_addSame_39 : decode cX11_addSame 39 = .ok (.if_icmp .eq 12, 3) := by decide +kernel
theorem dX11_addSame_42 : decode cX11_addSame 42 = .ok (.aload 4, 2) := by decide +kernel
theorem dX11_addSame_44 : decode cX11_addSame 44 = .ok (.iload_n 2, 1) := by decide +kernel
theorem dX11_addSame_45 : decode cX11_addSame 45 = .ok (.invokevirtual 183, 3) := by decide +kernel
theorem dX11_addSame_48 : decode cX11_addSame 48 = .ok (.goto 9, 3) := by decide +kernel
theorem dX11_addSame_51 : decode cX11_addSame 51 = .ok (.aload 4, 2) := by decide +kernel
theorem dX11_addSame_53 : decode cX11_addSame 53 = .ok (.iload_n 3, 1) := by decide +kernel
theorem dX11_addSame_54 : decode cX11_addSame 54 = .ok (.invokevirtual 183, 3) := by decide +kernel
theorem dX11_addSame_57 : decode cX11_addSame 57 = .ok (.istore 5, 2) := by decide +kernel
theorem dX11_addSame_59 : decode cX11_addSame 59 = .ok (.iload 5, 2) := by decide +kernel
theorem dX11_addSame_61 : decode cX11_addSame 61 = .ok (.iconst (-1), 1) := by decide +kernel
theorem dX11_addSame_62 : decode cX11_addSame 62 = .ok (.if_icmp .ne 11, 3) := by decide +kernel
theorem dX11_addSame_65 : decode cX11_addSame 65 = .ok (.new 83, 3) := by decide +kernel
theorem dX11_addSame_68 : decode cX11_addSame 68 = .ok (.dup, 1) := by decide +kernel
theorem dX11_addSame_69 : decode cX11_addSame 69 = .ok (.invokespecial 85, 3) := by decide +kernel
theorem dX11_addSame_72 : decode cX11_addSame 72 = .ok (.athrow, 1) := by decide +kernel
theorem dX11_addSame_73 : decode cX11_addSame 73 = .ok (.aload_n 0, 1) := by decide +kernel
theorem dX11_addSame_74 : decode cX11_addSame 74 = .ok (.aload 4, 2) := by decide +kernel
theorem dX11_addSame_76 : decode cX11_addSame 76 = .ok (.new 168, 3) := by decide +kernel
theorem dX11_addSame_79 : decode cX11_addSame 79 = .ok (.dup, 1) := by decide +kernel
theorem dX11_addSame_80 : decode cX11_addSame 80 = .ok (.iconst 1, 1) := by decide +kernel
theorem dX11_addSame_81 : decode cX11_addSame 81 = .ok (.iconst (-1), 1) := by decide +kernel
theorem dX11_addSame_82 : decode cX11_addSame 82 = .ok (.iconst 2, 1) := by decide +kernel
theorem dX11_addSame_83 : decode cX11_addSame 83 = .ok (.iload_n 2, 1) := by decide +kernel
theorem dX11_addSame_84 : decode cX11_addSame 84 = .ok (.iload_n 3, 1) := by decide +kernel
theorem dX11_addSame_85 : decode cX11_addSame 85 = .ok (.iconst 0, 1) := by decide +kernel
theorem dX11_addSame_86 : decode cX11_addSame 86 = .ok (.invokespecial 170, 3) := by decide +kernel
theorem dX11_addSame_89 : decode cX11_addSame 89 = .ok (.iload 5, 2) := by decide +kernel
theorem dX11_addSame_91 : decode cX11_addSame 91 = .ok (.iload 5, 2) := by decide +kernel
theorem dX11_addSame_93 : decode cX11_addSame 93 = .ok (.iconst (-1), 1) := by decide +kernel
theorem dX11_addSame_94 : decode cX11_addSame 94 = .ok (.invokevirtual 179, 3) := by decide +kernel
theorem dX11_addSame_97 : decode cX11_addSame 97 = .ok (.ireturn, 1) := by decide +kernel
set_option maxRecDepth 20000 in
theorem ggX11_addCall_X7_clauseAt : GoodIn wsX11_addCall wsX7_clauseAt := goodIn_r _ [11, 12, 13, 14, 15, 16, 17, 18, 19, 20, 21, 22, 23, 24, 25, 26, 27, 28, 29, 30, 31, 32, 33, 34, 35, 36, 191, 192, 193, 194, 195, 196] (by decide +kernel) (by decide +kernel)
set_option maxRecDepth 20000 in
theorem gX11_addCall_X7_clauseAt : GoodIn wsX11_addCall (wsV RX11 161 RX7 yX7_clauseAt wsX7_clauseAt) := goodIn_app (goodIn_of _ (by decide +kernel)) ggX11_addCall_X7_clauseAt
set_option maxRecDepth 20000 in
theorem ggX11_addCall_X7_predicateAt : GoodIn wsX11_addCall wsX7_predicateAt := goodIn_r _ [40, 41, 42, 14, 15, 16, 17, 18, 19, 20, 21, 22, 23, 24, 25, 26, 27, 28, 29, 30, 31, 32, 33, 34, 35, 36, 191, 192, 193, 194, 195, 196] (by decide +kernel) (by decide +kernel)
set_option maxRecDepth 20000 in
theorem gX11_addCall_X7_predicateAt : GoodIn wsX11_addCall (wsV RX11 134 RX7 yX7_predicateAt wsX7_predicateAt) := goodIn_app (goodIn_of _ (by decide +kernel)) ggX11_addCall_X7_predicateAt
set_option maxRecDepth 20000 in
theorem ggX11_addCall_X11_areVariables : GoodIn wsX11_addCall wsX11_areVariables := goodIn_r _ [46] (by decide +kernel) (by decide +kernel)
set_option maxRecDepth 20000 in
theorem gX11_addCall_X11_areVariables : GoodIn wsX11_addCall (va_wsS RX11 165 yX11_areVariables wsX11_areVariables) := goodIn_app (goodIn_of _ (by decide +kernel)) ggX11_addCall_X11_areVariables
set_option maxRecDepth 20000 in
theorem ggX11_addCall_X3_init : GoodIn wsX11_addCall wsX3_init := goodIn_ca (goodIn_r _ [61, 62, 63, 64, 65, 66, 67, 68, 69, 187, 188, 189, 190] (by decide +kernel) (by decide +kernel)) (goodIn_sub (fun _ h => List.mem_cons_of_mem _ (List.mem_append_left _ (List.mem_append_left _ (List.mem_append_right _ h)))) (by decide +kernel))
set_option maxRecDepth 20000 in
theorem gX11_addCall_X3_init : GoodIn wsX11_addCall (wsX3_init) := ggX11_addCall_X3_init
set_option maxRecDepth 20000 in
theorem ggX11_addCall_X11_addGoal : GoodIn wsX11_addCall wsX11_addGoal := goodIn_ca (goodIn_ca (goodIn_ca (goodIn_r _ [83, 84, 85, 86, 87, 88, 89, 90, 91, 6, 92, 67, 93, 94, 95, 96, 69, 97, 98, 99, 100, 101, 102, 45, 103, 104, 105, 106, 107, 108, 109, 110, 75, 76, 56, 77, 78, 58, 79, 111, 112, 113, 114, 115, 116, 15, 16, 17, 18, 19, 117, 118, 119, 120, 121, 122, 123, 124, 125, 126, 127, 128, 129, 130, 36, 131, 132, 133, 134, 135, 136, 137, 138, 139, 140, 141, 142, 143, 144, 145, 146, 147, 148, 149, 150, 151, 152, 153, 154, 155, 156, 157, 158, 159, 160, 161, 162, 163, 164, 165, 166, 167, 168, 169, 170, 171, 172, 173, 174, 175, 176, 177, 178, 179, 180, 181, 182, 183, 184, 185, 186, 187, 188, 189, 190, 205, 206, 207, 208, 209, 210, 211, 212, 213, 202, 203, 204, 194, 195, 196] (by decide +kernel) (by decide +kernel)) (goodIn_sub (fun _ h => List.mem_cons_of_mem _ (List.mem_append_left _ (List.mem_append_right _ h))) (by decide +kernel))) (goodIn_sub (fun _ h => List.mem_cons_of_mem _ (List.mem_append_right _ h)) (by decide +kernel))) (goodIn_sub (fun _ h => List.mem_cons_of_mem _ (List.mem_append_left _ (List.mem_append_left _ (List.mem_append_right _ h)))) (by decide +kernel))
set_option maxRecDepth 20000 in
theorem gX11_addCall_X11_addGoal : GoodIn wsX11_addCall (wsV RX11 179 RX11 yX11_addGoal wsX11_addGoal) := goodIn_app (goodIn_of _ (by decide +kernel)) ggX11_addCall_X11_addGoal
theorem dX11_addCall_0 : decode cX11_addCall 0 = .ok (.aload_n 0, 1) := by decide +kernel
theorem dX11_addCall_1 : decode cX11_addCall 1 = .ok (.getfield 19, 3) := by decide +kernel
theorem dX11_addCall_4 : decode cX11_addCall 4 = .ok (.iload_n 1, 1) := by decide +kernel
theorem dX11_addCall_5 : decode cX11_addCall 5 = .ok (.invokevirtual 161, 3) := by decide +kernel
theorem dX11_addCall_8 : decode cX11_addCall 8 = .ok (.astore 7, 2) := by decide +kernel
theorem dX11_addCall_10 : decode cX11_addCall 10 = .ok (.aload_n 0, 1) := by decide +kernel
theorem dX11_addCall_11 : decode cX11_addCall 11 = .ok (.getfield 19, 3) := by decide +kernel
theorem dX11_addCall_14 : decode cX11_addCall 14 = .ok (.iload_n 2, 1) := by decide +kernel
theorem dX11_addCall_15 : decode cX11_addCall 15 = .ok (.invokevirtual 134, 3) := by decide +kernel
theorem dX11_addCall_18 : decode cX11_addCall 18 = .ok (.astore 8, 2) := by decide +kernel
theorem dX11_addCall_20 : decode cX11_addCall 20 = .ok (.aload 7, 2) := by decide +kernel
theorem dX11_addCall_22 : decode cX11_addCall 22 = .ok (.ifnull 19, 3) := by decide +kernel
theorem dX11_addCall_25 : decode cX11_addCall 25 = .ok (.aload 8, 2) := by decide +kernel
theorem dX11_addCall_27 : decode cX11_addCall 27 = .ok (.ifnull 14, 3) := by decide +kernel
theorem dX11_addCall_30 : decode cX11_addCall 30 = .ok (.iload_n 3, 1) := by decide +kernel
theorem dX11_addCall_31 : decode cX11_addCall 31 = .ok (.iload 4, 2) := by decide +kernel
theorem dX11_addCall_33 : decode cX11_addCall 33 = .ok (.iload 5, 2) := by decide +kernel
theorem dX11_addCall_35 : decode cX11_addCall 35 = .ok (.invokestatic 165, 3) := by decide +kernel
theorem dX11_addCall_38 : decode cX11_addCall 38 = .ok (.ifCond .ne 11, 3) := by decide +kernel
theorem dX11_addCall_41 : decode cX11_addCall 41 = .ok (.new 80, 3) := by decide +kernel
theorem dX11_addCall_44 : decode cX11_addCall 44 = .ok (.dup, 1) := by decide +kernel
theorem dX11_addCall_45 : decode cX11_addCall 45 = .ok (.invokespecial 82, 3) := by decide +kernel
theorem dX11_addCall_48 : decode cX11_addCall 48 = .ok (.athrow, 1) := by decide +kernel
theorem dX11_addCall_49 : decode cX11_addCall 49 = .ok (.iload 6, 2) := by decide +kernel
theorem dX11_addCall_51 : decode cX11_addCall 51 = .ok (.ifCond .eq 7, 3) := by decide +kernel
theorem dX11_addCall_54 : decode cX11_addCall 54 = .ok (.iconst 3, 1) := by decide +kernel
theorem dX11_addCall_55 : decode cX11_addCall 55 = .ok (.goto 4, 3) := by decide +kernel
theorem dX11_addCall_58 : decode cX11_addCall 58 = .ok (.iconst 2, 1) := by decide +kernel
theorem dX11_addCall_59 : decode cX11_addCall 59 = .ok (.istore 9, 2) := by decide +kernel
theorem dX11_addCall_61 : decode cX11_addCall 61 = .ok (.new 168, 3) := by decide +kernel
theorem dX11_addCall_64 : decode cX11_addCall 64 = .ok (.dup, 1) := by decide +kernel
theorem dX11_addCall_65 : decode cX11_addCall 65 = .ok (.iload 9, 2) := by decide +kernel
theorem dX11_addCall_67 : decode cX11_addCall 67 = .ok (.iload_n 2, 1) := by decide +kernel
theorem dX11_addCall_68 : decode cX11_addCall 68 = .ok (.aload 8, 2) := by decide +kernel
theorem dX11_addCall_70 : decode cX11_addCall 70 = .ok (.invokevirtual 188, 3) := by decide +kernel
theorem dX11_addCall_73 : decode cX11_addCall 73 = .ok (.iload_n 3, 1) := by decide +kernel
theorem dX11_addCall_74 : decode cX11_addCall 74 = .ok (.iload 4, 2) := by decide +kernel
theorem dX11_addCall_76 : decode cX11_addCall 76 = .ok (.iload 5, 2) := by decide +kernel
theorem dX11_addCall_78 : decode cX11_addCall 78 = .ok (.invokespecial 170, 3) := by decide +kernel
theorem dX11_addCall_81 : decode cX11_addCall 81 = .ok (.astore 10, 2) := by decide +kernel
theorem dX11_addCall_83 : decode cX11_addCall 83 = .ok (.aload_n 0, 1) := by decide +kernel
theorem dX11_addCall_84 : decode cX11_addCall 84 = .ok (.aload 7, 2) := by decide +kernel
theorem dX11_addCall_86 : decode cX11_addCall 86 = .ok (.aload 10, 2) := by decide +kernel
theorem dX11_addCall_88 : decode cX11_addCall 88 = .ok (.aload 8, 2) := by decide +kernel
theorem dX11_addCall_90 : decode cX11_addCall 90 = .ok (.iconst 0, 1) := by decide +kernel
theorem dX11_addCall_91 : decode cX11_addCall 91 = .ok (.invokevirtual 191, 3) := by decide +kernel
theorem dX11_addCall_94 : decode cX11_addCall 94 = .ok (.aload 8, 2) := by decide +kernel
theorem dX11_addCall_96 : decode cX11_addCall 96 = .ok (.iconst 1, 1) := by decide +kernel
theorem dX11_addCall_97 : decode cX11_addCall 97 = .ok (.invokevirtual 191, 3) := by decide +kernel
theorem dX11_addCall_100 : decode cX11_addCall 100 = .ok (.aload 8, 2) := by decide +kernel
theorem dX11_addCall_102 : decode cX11_addCall 102 = .ok (.iconst 2, 1) := by decide +kernel
theorem dX11_addCall_103 : decode cX11_addCall 103 = .ok (.invokevirtual 191, 3) := by decide +kernel
theorem dX11_addCall_106 : decode cX11_addCall 106 = .ok (.invokevirtual 179, 3) := by decide +kernel
theorem dX11_addCall_109 : decode cX11_addCall 109 = .ok (.ireturn, 1) := by decide +kernel
set_option maxRecDepth 20000 in
theorem ggX11_compile_X7_analyse : GoodIn wsX11_compile wsX7_analyse := goodIn_ca (goodIn_r _ [10, 11, 12, 13, 14, 15, 16, 17, 18, 19, 20, 21, 22, 23, 24, 25, 26, 27, 28, 29, 30, 31, 32, 33, 34, 35, 36, 37, 38, 9, 39, 40, 41, 42, 43, 44, 45, 46, 47, 48, 49, 50, 51, 52, 53, 54, 55, 56, 57, 58, 59, 60, 61, 62, 63, 64, 65, 66, 67, 68, 69, 70, 71, 72, 73, 74, 75, 76, 77, 78, 79, 80, 81, 82, 83, 84, 85, 86, 87, 88, 89, 90, 91, 92, 93, 94, 95, 96, 97, 98, 99, 100, 101, 102, 103, 104, 105, 106, 107, 108, 109, 110, 111, 112, 113, 114, 115, 116, 117, 118, 119, 120, 121, 122, 123, 124, 125, 126, 127, 128, 129, 130, 131, 132, 133, 134, 135, 136, 137, 138, 139, 140, 141, 142, 143, 144, 145, 146, 147, 148, 149, 150, 151, 152, 153, 154, 155, 156, 157, 158, 159, 160, 161, 162, 163, 164, 165, 166, 167, 168, 169, 170, 171, 172, 173, 174, 175, 176, 177, 178, 179, 180, 181, 182, 183, 184, 185, 186, 187, 188, 189, 190, 191, 192, 193, 194, 195, 196, 197, 198, 199, 200, 201, 202, 203, 204, 205, 206, 207, 208, 209, 210, 211, 212, 213, 214, 215, 216, 217, 218, 219, 220, 221, 222, 223, 224, 225, 252, 253, 254, 255, 256, 257, 258, 259, 260, 261, 262, 263, 264, 265, 266, 267, 268, 269, 270, 271, 272, 273, 274, 275, 276, 277, 278, 279, 280, 281, 282, 283, 284, 285, 286, 287, 288, 289, 290, 291, 292] (by decide +kernel) (by decide +kernel)) (goodIn_sub (fun _ h => List.mem_cons_of_mem _ (List.mem_append_right _ h)) (by decide +kernel))
set_option maxRecDepth 20000 in
theorem gX11_compile_X7_analyse : GoodIn wsX11_compile (wsV RX11 192 RX7 yX7_analyse wsX7_analyse) := goodIn_app (goodIn_of _ (by decide +kernel)) ggX11_compile_X7_analyse
set_option maxRecDepth 20000 in
theorem ggX11_compile_X7_faultCount : GoodIn wsX11_compile wsX7_faultCount := goodIn_r _ [229, 11, 12, 13, 14, 15, 16, 17, 18, 19, 20, 21, 22, 23, 24, 25, 26, 27, 28, 29, 30, 31, 32, 33, 34, 35, 230, 231, 232, 111, 233, 234, 235, 236, 237, 238, 239, 240, 241, 242, 252, 253, 254, 264, 265, 266, 255, 256, 257, 258, 259, 260, 261, 262, 263] (by decide +kernel) (by decide +kernel)
set_option maxRecDepth 20000 in
theorem gX11_compile_X7_faultCount : GoodIn wsX11_compile (wsV RX11 196 RX7 yX7_faultCount wsX7_faultCount) := goodIn_app (goodIn_of _ (by decide +kernel)) ggX11_compile_X7_faultCount
theorem dX11_compile_0 : decode cX11_compile 0 = .ok (.aload_n 0, 1) := by decide +kernel
theorem dX11_compile_1 : decode cX11_compile 1 = .ok (.getfield 51, 3) := by decide +kernel
theorem dX11_compile_4 : decode cX11_compile 4 = .ok (.ifCond .eq 11, 3) := by decide +kernel
theorem dX11_compile_7 : decode cX11_compile 7 = .ok (.new 67, 3) := by decide +kernel
theorem dX11_compile_10 : decode cX11_compile 10 = .ok (.dup, 1) := by decide +kernel
theorem dX11_compile_11 : decode cX11_compile 11 = .ok (.invokespecial 69, 3) := by decide +kernel
theorem dX11_compile_14 : decode cX11_compile 14 = .ok (.athrow, 1) := by decide +kernel
theorem dX11_compile_15 : decode cX11_compile 15 = .ok (.aload_n 0, 1) := by decide +kernel
theorem dX11_compile_16 : decode cX11_compile 16 = .ok (.getfield 19, 3) := by decide +kernel
theorem dX11_compile_19 : decode cX11_compile 19 = .ok (.aload_n 0, 1) := by decide +kernel
theorem dX11_compile_20 : decode cX11_compile 20 = .ok (.getfield 10, 3) := by decide +kernel
theorem dX11_compile_23 : decode cX11_compile 23 = .ok (.invokevirtual 192, 3) := by decide +kernel
theorem dX11_compile_26 : decode cX11_compile 26 = .ok (.aload_n 0, 1) := by decide +kernel
theorem dX11_compile_27 : decode cX11_compile 27 = .ok (.iconst 1, 1) := by decide +kernel
theorem dX11_compile_28 : decode cX11_compile 28 = .ok (.putfield 51, 3) := by decide +kernel
theorem dX11_compile_31 : decode cX11_compile 31 = .ok (.aload_n 0, 1) := by decide +kernel
theorem dX11_compile_32 : decode cX11_compile 32 = .ok (.getfield 19, 3) := by decide +kernel
theorem dX11_compile_35 : decode cX11_compile 35 = .ok (.invokevirtual 196, 3) := by decide +kernel
theorem dX11_compile_38 : decode cX11_compile 38 = .ok (.ireturn, 1) := by decide +kernel
set_option maxRecDepth 20000 in
theorem ggX11_open_X11_refuseUncompiled : GoodIn wsX11_open wsX11_refuseUncompiled := goodIn_ca (goodIn_r _ [8, 9, 10, 2, 11, 12, 13, 14, 15, 16, 17, 18, 19] (by decide +kernel) (by decide +kernel)) (goodIn_sub (fun _ h => List.mem_cons_of_mem _ (List.mem_append_right _ h)) (by decide +kernel))
set_option maxRecDepth 20000 in
theorem gX11_open_X11_refuseUncompiled : GoodIn wsX11_open (wsV RX11 199 RX11 yX11_refuseUncompiled wsX11_refuseUncompiled) := goodIn_app (goodIn_of _ (by decide +kernel)) ggX11_open_X11_refuseUncompiled
theorem dX11_open_0 : decode cX11_open 0 = .ok (.aload_n 0, 1) := by decide +kernel
theorem dX11_open_1 : decode cX11_open 1 = .ok (.invokevirtual 199, 3) := by decide +kernel
theorem dX11_open_4 : decode cX11_open 4 = .ok (.aload_n 0, 1) := by decide +kernel
theorem dX11_open_5 : decode cX11_open 5 = .ok (.getfield 55, 3) := by decide +kernel
theorem dX11_open_8 : decode cX11_open 8 = .ok (.istore_n 1, 1) := by decide +kernel
theorem dX11_open_9 : decode cX11_open 9 = .ok (.aload_n 0, 1) := by decide +kernel
theorem dX11_open_10 : decode cX11_open 10 = .ok (.iconst 0, 1) := by decide +kernel
theorem dX11_open_11 : decode cX11_open 11 = .ok (.putfield 51, 3) := by decide +kernel
theorem dX11_open_14 : decode cX11_open 14 = .ok (.aload_n 0, 1) := by decide +kernel
theorem dX11_open_15 : decode cX11_open 15 = .ok (.iconst 0, 1) := by decide +kernel
theorem dX11_open_16 : decode cX11_open 16 = .ok (.putfield 55, 3) := by decide +kernel
theorem dX11_open_19 : decode cX11_open 19 = .ok (.aload_n 0, 1) := by decide +kernel
theorem dX11_open_20 : decode cX11_open 20 = .ok (.lconst 0, 1) := by decide +kernel
theorem dX11_open_21 : decode cX11_open 21 = .ok (.putfield 59, 3) := by decide +kernel
theorem dX11_open_24 : decode cX11_open 24 = .ok (.iload_n 1, 1) := by decide +kernel
theorem dX11_open_25 : decode cX11_open 25 = .ok (.ireturn, 1) := by decide +kernel
set_option maxRecDepth 20000 in
theorem ggX11_fault_X11_compiledMode : GoodIn wsX11_fault wsX11_compiledMode := goodIn_ca (goodIn_ca (goodIn_r _ [5, 6, 7, 8, 9, 10, 11, 12, 13, 14, 15, 16, 17, 18, 19, 20, 21, 22, 23, 24, 25, 26, 27, 28, 29, 30, 31, 32, 33, 34, 35, 36, 37, 38, 39, 40, 41, 42, 43, 44, 45, 46, 47, 48, 49, 50, 51, 52, 53, 54, 4, 55, 56, 57, 58, 73, 74, 75, 76, 77, 78, 79, 80, 81, 82, 83, 84, 85, 86, 87, 88, 89, 90, 91, 92] (by decide +kernel) (by decide +kernel)) (goodIn_sub (fun _ h => List.mem_cons_of_mem _ (List.mem_append_left _ (List.mem_append_right _ h))) (by decide +kernel))) (goodIn_sub (fun _ h => List.mem_cons_of_mem _ (List.mem_append_right _ h)) (by decide +kernel))
set_option maxRecDepth 20000 in
theorem gX11_fault_X11_compiledMode : GoodIn wsX11_fault (wsV RX11 202 RX11 yX11_compiledMode wsX11_compiledMode) := goodIn_app (goodIn_of _ (by decide +kernel)) ggX11_fault_X11_compiledMode
theorem dX11_fault_0 : decode cX11_fault 0 = .ok (.aload_n 0, 1) := by decide +kernel
theorem dX11_fault_1 : decode cX11_fault 1 = .ok (.iload_n 1, 1) := by decide +kernel
theorem dX11_fault_2 : decode cX11_fault 2 = .ok (.iload_n 2, 1) := by decide +kernel
theorem dX11_fault_3 : decode cX11_fault 3 = .ok (.invokevirtual 202, 3) := by decide +kernel
theorem dX11_fault_6 : decode cX11_fault 6 = .ok (.invokevirtual 206, 3) := by decide +kernel
theorem dX11_fault_9 : decode cX11_fault 9 = .ok (.ireturn, 1) := by decide +kernel
set_option maxRecDepth 20000 in
theorem ggX11_isGood_X11_compiledMode : GoodIn wsX11_isGood wsX11_compiledMode := goodIn_ca (goodIn_ca (goodIn_r _ [5, 6, 7, 8, 9, 10, 11, 12, 13, 14, 15, 16, 17, 18, 19, 20, 21, 22, 23, 24, 25, 26, 27, 28, 29, 30, 31, 32, 33, 34, 35, 36, 37, 38, 39, 40, 41, 42, 43, 44, 45, 46, 47, 48, 49, 50, 51, 52, 53, 54, 4, 55, 56, 57, 58, 68, 69, 70, 71, 72, 73, 74, 75, 76, 77, 78, 79, 80, 81, 82, 83, 84, 85, 86, 87] (by decide +kernel) (by decide +kernel)) (goodIn_sub (fun _ h => List.mem_cons_of_mem _ (List.mem_append_left _ (List.mem_append_right _ h))) (by decide +kernel))) (goodIn_sub (fun _ h => List.mem_cons_of_mem _ (List.mem_append_right _ h)) (by decide +kernel))
set_option maxRecDepth 20000 in
theorem gX11_isGood_X11_compiledMode : GoodIn wsX11_isGood (wsV RX11 202 RX11 yX11_compiledMode wsX11_compiledMode) := goodIn_app (goodIn_of _ (by decide +kernel)) ggX11_isGood_X11_compiledMode
theorem dX11_isGood_0 : decode cX11_isGood 0 = .ok (.aload_n 0, 1) := by decide +kernel
theorem dX11_isGood_1 : decode cX11_isGood 1 = .ok (.iload_n 1, 1) := by decide +kernel
theorem dX11_isGood_2 : decode cX11_isGood 2 = .ok (.iload_n 2, 1) := by decide +kernel
theorem dX11_isGood_3 : decode cX11_isGood 3 = .ok (.invokevirtual 202, 3) := by decide +kernel
theorem dX11_isGood_6 : decode cX11_isGood 6 = .ok (.getfield 212, 3) := by decide +kernel
theorem dX11_isGood_9 : decode cX11_isGood 9 = .ok (.ireturn, 1) := by decide +kernel
set_option maxRecDepth 20000 in
theorem ggX11_found_X11_compiledMode : GoodIn wsX11_found wsX11_compiledMode := goodIn_ca (goodIn_ca (goodIn_r _ [7, 8, 9, 10, 11, 12, 13, 14, 15, 16, 17, 18, 19, 20, 21, 22, 23, 24, 25, 26, 27, 28, 29, 30, 31, 32, 33, 34, 35, 36, 37, 38, 39, 40, 41, 42, 43, 44, 45, 46, 47, 48, 49, 50, 51, 52, 53, 54, 55, 56, 6, 57, 58, 59, 60, 77, 78, 79, 80, 81, 82, 83, 84, 85, 86, 87, 88, 89, 90, 91, 92, 93, 94, 95, 96] (by decide +kernel) (by decide +kernel)) (goodIn_sub (fun _ h => List.mem_cons_of_mem _ (List.mem_append_left _ (List.mem_append_right _ h))) (by decide +kernel))) (goodIn_sub (fun _ h => List.mem_cons_of_mem _ (List.mem_append_right _ h)) (by decide +kernel))
set_option maxRecDepth 20000 in
theorem gX11_found_X11_compiledMode : GoodIn wsX11_found (wsV RX11 202 RX11 yX11_compiledMode wsX11_compiledMode) := goodIn_app (goodIn_of _ (by decide +kernel)) ggX11_found_X11_compiledMode
theorem dX11_found_0 : decode cX11_found 0 = .ok (.aload_n 0, 1) := by decide +kernel
theorem dX11_found_1 : decode cX11_found 1 = .ok (.iload_n 1, 1) := by decide +kernel
theorem dX11_found_2 : decode cX11_found 2 = .ok (.iload_n 2, 1) := by decide +kernel
theorem dX11_found_3 : decode cX11_found 3 = .ok (.invokevirtual 202, 3) := by decide +kernel
theorem dX11_found_6 : decode cX11_found 6 = .ok (.astore_n 3, 1) := by decide +kernel
theorem dX11_found_7 : decode cX11_found 7 = .ok (.aload_n 3, 1) := by decide +kernel
theorem dX11_found_8 : decode cX11_found 8 = .ok (.getfield 212, 3) := by decide +kernel
theorem dX11_found_11 : decode cX11_found 11 = .ok (.ifCond .ne 11, 3) := by decide +kernel
theorem dX11_found_14 : decode cX11_found 14 = .ok (.new 117, 3) := by decide +kernel
theorem dX11_found_17 : decode cX11_found 17 = .ok (.dup, 1) := by decide +kernel
theorem dX11_found_18 : decode cX11_found 18 = .ok (.invokespecial 119, 3) := by decide +kernel
theorem dX11_found_21 : decode cX11_found 21 = .ok (.athrow, 1) := by decide +kernel
theorem dX11_found_22 : decode cX11_found 22 = .ok (.aload_n 3, 1) := by decide +kernel
theorem dX11_found_23 : decode cX11_found 23 = .ok (.invokevirtual 215, 3) := by decide +kernel
theorem dX11_found_26 : decode cX11_found 26 = .ok (.ireturn, 1) := by decide +kernel
set_option maxRecDepth 20000 in
theorem ggX11_switchOf_X11_compiledMode : GoodIn wsX11_switchOf wsX11_compiledMode := goodIn_ca (goodIn_ca (goodIn_r _ [7, 8, 9, 10, 11, 12, 13, 14, 15, 16, 17, 18, 19, 20, 21, 22, 23, 24, 25, 26, 27, 28, 29, 30, 31, 32, 33, 34, 35, 36, 37, 38, 39, 40, 41, 42, 43, 44, 45, 46, 47, 48, 49, 50, 51, 52, 53, 54, 55, 56, 6, 57, 58, 59, 60, 70, 71, 72, 73, 74, 75, 76, 77, 78, 79, 80, 81, 82, 83, 84, 85, 86, 87, 88, 89] (by decide +kernel) (by decide +kernel)) (goodIn_sub (fun _ h => List.mem_cons_of_mem _ (List.mem_append_left _ (List.mem_append_right _ h))) (by decide +kernel))) (goodIn_sub (fun _ h => List.mem_cons_of_mem _ (List.mem_append_right _ h)) (by decide +kernel))
set_option maxRecDepth 20000 in
theorem gX11_switchOf_X11_compiledMode : GoodIn wsX11_switchOf (wsV RX11 202 RX11 yX11_compiledMode wsX11_compiledMode) := goodIn_app (goodIn_of _ (by decide +kernel)) ggX11_switchOf_X11_compiledMode
theorem dX11_switchOf_0 : decode cX11_switchOf 0 = .ok (.aload_n 0, 1) := by decide +kernel
theorem dX11_switchOf_1 : decode cX11_switchOf 1 = .ok (.iload_n 1, 1) := by decide +kernel
theorem dX11_switchOf_2 : decode cX11_switchOf 2 = .ok (.iload_n 2, 1) := by decide +kernel
theorem dX11_switchOf_3 : decode cX11_switchOf 3 = .ok (.invokevirtual 202, 3) := by decide +kernel
theorem dX11_switchOf_6 : decode cX11_switchOf 6 = .ok (.astore_n 3, 1) := by decide +kernel
theorem dX11_switchOf_7 : decode cX11_switchOf 7 = .ok (.aload_n 3, 1) := by decide +kernel
theorem dX11_switchOf_8 : decode cX11_switchOf 8 = .ok (.getfield 218, 3) := by decide +kernel
theorem dX11_switchOf_11 : decode cX11_switchOf 11 = .ok (.ifCond .ne 11, 3) := by decide +kernel
theorem dX11_switchOf_14 : decode cX11_switchOf 14 = .ok (.aload_n 3, 1) := by decide +kernel
theorem dX11_switchOf_15 : decode cX11_switchOf 15 = .ok (.getfield 221, 3) := by decide +kernel
theorem dX11_switchOf_18 : decode cX11_switchOf 18 = .ok (.iconst (-1), 1) := by decide +kernel
theorem dX11_switchOf_19 : decode cX11_switchOf 19 = .ok (.if_icmp .ne 11, 3) := by decide +kernel
theorem dX11_switchOf_22 : decode cX11_switchOf 22 = .ok (.new 117, 3) := by decide +kernel
theorem dX11_switchOf_25 : decode cX11_switchOf 25 = .ok (.dup, 1) := by decide +kernel
theorem dX11_switchOf_26 : decode cX11_switchOf 26 = .ok (.invokespecial 119, 3) := by decide +kernel
theorem dX11_switchOf_29 : decode cX11_switchOf 29 = .ok (.athrow, 1) := by decide +kernel
theorem dX11_switchOf_30 : decode cX11_switchOf 30 = .ok (.aload_n 3, 1) := by decide +kernel
theorem dX11_switchOf_31 : decode cX11_switchOf 31 = .ok (.getfield 221, 3) := by decide +kernel
theorem dX11_switchOf_34 : decode cX11_switchOf 34 = .ok (.ireturn, 1) := by decide +kernel
set_option maxRecDepth 20000 in
theorem ggX11_goalAt_X11_orderedClause : GoodIn wsX11_goalAt wsX11_orderedClause := goodIn_ca (goodIn_ca (goodIn_r _ [7, 8, 9, 10, 11, 12, 13, 14, 15, 16, 17, 18, 19, 20, 21, 22, 23, 24, 25, 26, 27, 28, 29, 30, 31, 32, 33, 34, 35, 36, 37, 38, 39, 40, 41, 42, 43, 44, 45, 46, 47, 48, 49, 50, 51, 52, 6, 53, 54, 55, 56, 68, 69, 70, 71, 72, 73, 74, 75, 76, 77, 78, 79, 80, 81, 82, 83, 84, 85, 86, 87, 88, 89, 90, 91, 92, 93, 94, 95, 96] (by decide +kernel) (by decide +kernel)) (goodIn_sub (fun _ h => List.mem_cons_of_mem _ (List.mem_append_left _ (List.mem_append_left _ (List.mem_append_right _ h)))) (by decide +kernel))) (goodIn_sub (fun _ h => List.mem_cons_of_mem _ (List.mem_append_left _ (List.mem_append_right _ h))) (by decide +kernel))
set_option maxRecDepth 20000 in
theorem gX11_goalAt_X11_orderedClause : GoodIn wsX11_goalAt (wsV RX11 224 RX11 yX11_orderedClause wsX11_orderedClause) := goodIn_app (goodIn_of _ (by decide +kernel)) ggX11_goalAt_X11_orderedClause
theorem dX11_goalAt_0 : decode cX11_goalAt 0 = .ok (.aload_n 0, 1) := by decide +kernel
theorem dX11_goalAt_1 : decode cX11_goalAt 1 = .ok (.iload_n 1, 1) := by decide +kernel
theorem dX11_goalAt_2 : decode cX11_goalAt 2 = .ok (.iload_n 2, 1) := by decide +kernel
theorem dX11_goalAt_3 : decode cX11_goalAt 3 = .ok (.invokevirtual 224, 3) := by decide +kernel
theorem dX11_goalAt_6 : decode cX11_goalAt 6 = .ok (.astore 4, 2) := by decide +kernel
theorem dX11_goalAt_8 : decode cX11_goalAt 8 = .ok (.aload 4, 2) := by decide +kernel
theorem dX11_goalAt_10 : decode cX11_goalAt 10 = .ok (.iload_n 2, 1) := by decide +kernel
theorem dX11_goalAt_11 : decode cX11_goalAt 11 = .ok (.iload_n 3, 1) := by decide +kernel
theorem dX11_goalAt_12 : decode cX11_goalAt 12 = .ok (.invokevirtual 228, 3) := by decide +kernel
theorem dX11_goalAt_15 : decode cX11_goalAt 15 = .ok (.istore 5, 2) := by decide +kernel
theorem dX11_goalAt_17 : decode cX11_goalAt 17 = .ok (.iload 5, 2) := by decide +kernel
theorem dX11_goalAt_19 : decode cX11_goalAt 19 = .ok (.iconst (-1), 1) := by decide +kernel
theorem dX11_goalAt_20 : decode cX11_goalAt 20 = .ok (.if_icmp .ne 11, 3) := by decide +kernel
theorem dX11_goalAt_23 : decode cX11_goalAt 23 = .ok (.new 117, 3) := by decide +kernel
theorem dX11_goalAt_26 : decode cX11_goalAt 26 = .ok (.dup, 1) := by decide +kernel
theorem dX11_goalAt_27 : decode cX11_goalAt 27 = .ok (.invokespecial 119, 3) := by decide +kernel
theorem dX11_goalAt_30 : decode cX11_goalAt 30 = .ok (.athrow, 1) := by decide +kernel
theorem dX11_goalAt_31 : decode cX11_goalAt 31 = .ok (.iload 5, 2) := by decide +kernel
theorem dX11_goalAt_33 : decode cX11_goalAt 33 = .ok (.ireturn, 1) := by decide +kernel
set_option maxRecDepth 20000 in
theorem ggX11_chosenAt_X11_orderedClause : GoodIn wsX11_chosenAt wsX11_orderedClause := goodIn_ca (goodIn_ca (goodIn_r _ [7, 8, 9, 10, 11, 12, 13, 14, 15, 16, 17, 18, 19, 20, 21, 22, 23, 24, 25, 26, 27, 28, 29, 30, 31, 32, 33, 34, 35, 36, 37, 38, 39, 40, 41, 42, 43, 44, 45, 46, 47, 48, 49, 50, 51, 52, 6, 53, 54, 55, 56, 77, 78, 79, 80, 81, 82, 83, 84, 85, 86, 87, 88, 89, 90, 91, 92, 93, 94, 95, 96, 97, 98, 99, 100, 101, 102, 103, 104, 105] (by decide +kernel) (by decide +kernel)) (goodIn_sub (fun _ h => List.mem_cons_of_mem _ (List.mem_append_left _ (List.mem_append_left _ (List.mem_append_right _ h)))) (by decide +kernel))) (goodIn_sub (fun _ h => List.mem_cons_of_mem _ (List.mem_append_left _ (List.mem_append_right _ h))) (by decide +kernel))
set_option maxRecDepth 20000 in
theorem gX11_chosenAt_X11_orderedClause : GoodIn wsX11_chosenAt (wsV RX11 224 RX11 yX11_orderedClause wsX11_orderedClause) := goodIn_app (goodIn_of _ (by decide +kernel)) ggX11_chosenAt_X11_orderedClause
theorem dX11_chosenAt_0 : decode cX11_chosenAt 0 = .ok (.aload_n 0, 1) := by decide +kernel
theorem dX11_chosenAt_1 : decode cX11_chosenAt 1 = .ok (.iload_n 1, 1) := by decide +kernel
theorem dX11_chosenAt_2 : decode cX11_chosenAt 2 = .ok (.iload_n 2, 1) := by decide +kernel
theorem dX11_chosenAt_3 : decode cX11_chosenAt 3 = .ok (.invokevirtual 224, 3) := by decide +kernel
theorem dX11_chosenAt_6 : decode cX11_chosenAt 6 = .ok (.astore 4, 2) := by decide +kernel
theorem dX11_chosenAt_8 : decode cX11_chosenAt 8 = .ok (.aload 4, 2) := by decide +kernel
theorem dX11_chosenAt_10 : decode cX11_chosenAt 10 = .ok (.iload_n 2, 1) := by decide +kernel
theorem dX11_chosenAt_11 : decode cX11_chosenAt 11 = .ok (.iload_n 3, 1) := by decide +kernel
theorem dX11_chosenAt_12 : decode cX11_chosenAt 12 = .ok (.invokevirtual 231, 3) := by decide +kernel
theorem dX11_chosenAt_15 : decode cX11_chosenAt 15 = .ok (.astore 5, 2) := by decide +kernel
theorem dX11_chosenAt_17 : decode cX11_chosenAt 17 = .ok (.aload 5, 2) := by decide +kernel
theorem dX11_chosenAt_19 : decode cX11_chosenAt 19 = .ok (.ifnonnull 11, 3) := by decide +kernel
theorem dX11_chosenAt_22 : decode cX11_chosenAt 22 = .ok (.new 117, 3) := by decide +kernel
theorem dX11_chosenAt_25 : decode cX11_chosenAt 25 = .ok (.dup, 1) := by decide +kernel
theorem dX11_chosenAt_26 : decode cX11_chosenAt 26 = .ok (.invokespecial 119, 3) := by decide +kernel
theorem dX11_chosenAt_29 : decode cX11_chosenAt 29 = .ok (.athrow, 1) := by decide +kernel
theorem dX11_chosenAt_30 : decode cX11_chosenAt 30 = .ok (.aload 5, 2) := by decide +kernel
theorem dX11_chosenAt_32 : decode cX11_chosenAt 32 = .ok (.getfield 234, 3) := by decide +kernel
theorem dX11_chosenAt_35 : decode cX11_chosenAt 35 = .ok (.ireturn, 1) := by decide +kernel
set_option maxRecDepth 20000 in
theorem ggX11_ask_X7_modeAt : GoodIn wsX11_ask wsX7_modeAt := goodIn_r _ [17, 18, 19, 20, 16, 21, 22, 23, 24, 25, 26, 27, 28, 29, 30, 31, 32, 33, 34, 35, 36, 37, 38, 39, 40, 41, 42, 43, 44, 45, 46, 47, 48, 49, 50, 51, 52, 53, 54, 55, 481, 482, 483, 484, 485, 486, 487, 488, 489, 490, 491] (by decide +kernel) (by decide +kernel)
set_option maxRecDepth 20000 in
theorem gX11_ask_X7_modeAt : GoodIn wsX11_ask (wsV RX11 237 RX7 yX7_modeAt wsX7_modeAt) := goodIn_app (goodIn_of _ (by decide +kernel)) ggX11_ask_X7_modeAt
set_option maxRecDepth 20000 in
theorem ggX11_ask_X11_areInputsThere : GoodIn wsX11_ask wsX11_areInputsThere := goodIn_r _ [60, 61, 62, 63, 64, 65, 66, 67, 68, 69, 59, 70, 71, 72, 73, 74, 75, 76, 77, 78, 79, 80, 81, 82, 453, 454, 455, 456, 457, 458, 459, 460, 461, 462, 463, 464, 465, 466, 467, 468, 469, 470, 492, 493, 494, 495, 496, 497, 498, 499] (by decide +kernel) (by decide +kernel)
set_option maxRecDepth 20000 in
theorem gX11_ask_X11_areInputsThere : GoodIn wsX11_ask (wsV RX11 240 RX11 yX11_areInputsThere wsX11_areInputsThere) := goodIn_app (goodIn_of _ (by decide +kernel)) ggX11_ask_X11_areInputsThere
set_option maxRecDepth 20000 in
theorem ggX11_ask_X11_doInputsFit : GoodIn wsX11_ask wsX11_doInputsFit := goodIn_ca (goodIn_r _ [86, 61, 68, 69, 59, 70, 62, 63, 64, 65, 66, 67, 87, 88, 89, 74, 90, 76, 91, 92, 93, 80, 94, 95, 82, 96, 97, 98, 99, 100, 101, 102, 103, 104, 50, 105, 106, 107, 453, 454, 455, 456, 457, 458, 459, 460, 461, 462, 463, 464, 465, 466, 467, 468, 469, 470, 492, 493, 494, 495, 496, 497, 498, 499, 487, 488, 489, 490, 491] (by decide +kernel) (by decide +kernel)) (goodIn_sub (fun _ h => List.mem_cons_of_mem _ (List.mem_append_left _ (List.mem_append_right _ h))) (by decide +kernel))
set_option maxRecDepth 20000 in
theorem gX11_ask_X11_doInputsFit : GoodIn wsX11_ask (wsV RX11 244 RX11 yX11_doInputsFit wsX11_doInputsFit) := goodIn_app (goodIn_of _ (by decide +kernel)) ggX11_ask_X11_doInputsFit
set_option maxRecDepth 20000 in
theorem ggX11_ask_X11_refuseUncompiled : GoodIn wsX11_ask wsX11_refuseUncompiled := goodIn_ca (goodIn_r _ [111, 112, 113, 114, 453, 454, 455, 456, 457, 458, 459, 460, 461] (by decide +kernel) (by decide +kernel)) (goodIn_sub (fun _ h => List.mem_cons_of_mem _ (List.mem_append_right _ h)) (by decide +kernel))
set_option maxRecDepth 20000 in
theorem gX11_ask_X11_refuseUncompiled : GoodIn wsX11_ask (wsV RX11 199 RX11 yX11_refuseUncompiled wsX11_refuseUncompiled) := goodIn_app (goodIn_of _ (by decide +kernel)) ggX11_ask_X11_refuseUncompiled
theorem dX11_ask_0 : decode cX11_ask 0 = .ok (.aload_n 0, 1) := by decide +kernel
theorem dX11_ask_1 : decode cX11_ask 1 = .ok (.getfield 19, 3) := by decide +kernel
theorem dX11_ask_4 : decode cX11_ask 4 = .ok (.iload_n 1, 1) := by decide +kernel
theorem dX11_ask_5 : decode cX11_ask 5 = .ok (.iload_n 2, 1) := by decide +kernel
theorem dX11_ask_6 : decode cX11_ask 6 = .ok (.invokevirtual 237, 3) := by decide +kernel
theorem dX11_ask_9 : decode cX11_ask 9 = .ok (.astore 6, 2) := by decide +kernel
theorem dX11_ask_11 : decode cX11_ask 11 = .ok (.aload 6, 2) := by decide +kernel
theorem dX11_ask_13 : decode cX11_ask 13 = .ok (.ifnull 17, 3) := by decide +kernel
theorem dX11_ask_16 : decode cX11_ask 16 = .ok (.aload_n 0, 1) := by decide +kernel
theorem dX11_ask_17 : decode cX11_ask 17 = .ok (.aload 6, 2) := by decide +kernel
theorem dX11_ask_19 : decode cX11_ask 19 = .ok (.iload_n 3, 1) := by decide +kernel
theorem dX11_ask_20 : decode cX11_ask 20 = .ok (.iload 4, 2) := by decide +kernel
theorem dX11_ask_22 : decode cX11_ask 22 = .ok (.iload 5, 2) := by decide +kernel
theorem dX11_ask_24 : decode cX11_ask 24 = .ok (.invokevirtual 240, 3) := by decide +kernel
theorem dX11_ask_27 : decode cX11_ask 27 = .ok (.ifCond .ne 11, 3) := by decide +kernel
theorem dX11_ask_30 : decode cX11_ask 30 = .ok (.new 80, 3) := by decide +kernel
theorem dX11_ask_33 : decode cX11_ask 33 = .ok (.dup, 1) := by decide +kernel
theorem dX11_ask_34 : decode cX11_ask 34 = .ok (.invokespecial 82, 3) := by decide +kernel
theorem dX11_ask_37 : decode cX11_ask 37 = .ok (.athrow, 1) := by decide +kernel
theorem dX11_ask_38 : decode cX11_ask 38 = .ok (.aload_n 0, 1) := by decide +kernel
theorem dX11_ask_39 : decode cX11_ask 39 = .ok (.aload 6, 2) := by decide +kernel
theorem dX11_ask_41 : decode cX11_ask 41 = .ok (.iload_n 3, 1) := by decide +kernel
theorem dX11_ask_42 : decode cX11_ask 42 = .ok (.iload 4, 2) := by decide +kernel
theorem dX11_ask_44 : decode cX11_ask 44 = .ok (.iload 5, 2) := by decide +kernel
theorem dX11_ask_46 : decode cX11_ask 46 = .ok (.invokevirtual 244, 3) := by decide +kernel
theorem dX11_ask_49 : decode cX11_ask 49 = .ok (.ifCond .ne 11, 3) := by decide +kernel
theorem dX11_ask_52 : decode cX11_ask 52 = .ok (.new 83, 3) := by decide +kernel
theorem dX11_ask_55 : decode cX11_ask 55 = .ok (.dup, 1) := by decide +kernel
theorem dX11_ask_56 : decode cX11_ask 56 = .ok (.invokespecial 85, 3) := by decide +kernel
theorem dX11_ask_59 : decode cX11_ask 59 = .ok (.athrow, 1) := by decide +kernel
theorem dX11_ask_60 : decode cX11_ask 60 = .ok (.aload_n 0, 1) := by decide +kernel
theorem dX11_ask_61 : decode cX11_ask 61 = .ok (.invokevirtual 199, 3) := by decide +kernel
theorem dX11_ask_64 : decode cX11_ask 64 = .ok (.aload_n 0, 1) := by decide +kernel
theorem dX11_ask_65 : decode cX11_ask 65 = .ok (.getfield 30, 3) := by decide +kernel
theorem dX11_ask_68 : decode cX11_ask 68 = .ok (.aload 6, 2) := by decide +kernel
theorem dX11_ask_70 : decode cX11_ask 70 = .ok (.iload_n 3, 1) := by decide +kernel
theorem dX11_ask_71 : decode cX11_ask 71 = .ok (.iload 4, 2) := by decide +kernel
theorem dX11_ask_73 : decode cX11_ask 73 = .ok (.iload 5, 2) := by decide +kernel
theorem dX11_ask_75 : decode cX11_ask 75 = .ok (.invokevirtual 247, 3) := by decide +kernel
theorem dX11_ask_78 : decode cX11_ask 78 = .ok (.aload 6, 2) := by decide +kernel
theorem dX11_ask_80 : decode cX11_ask 80 = .ok (.getfield 212, 3) := by decide +kernel
theorem dX11_ask_83 : decode cX11_ask 83 = .ok (.ifCond .eq 19, 3) := by decide +kernel
theorem dX11_ask_86 : decode cX11_ask 86 = .ok (.aload_n 0, 1) := by decide +kernel
theorem dX11_ask_87 : decode cX11_ask 87 = .ok (.getfield 38, 3) := by decide +kernel
theorem dX11_ask_90 : decode cX11_ask 90 = .ok (.aload 6, 2) := by decide +kernel
theorem dX11_ask_92 : decode cX11_ask 92 = .ok (.aload_n 0, 1) := by decide +kernel
theorem dX11_ask_93 : decode cX11_ask 93 = .ok (.getfield 30, 3) := by decide +kernel
theorem dX11_ask_96 : decode cX11_ask 96 = .ok (.invokevirtual 251, 3) := by decide +kernel
theorem dX11_ask_99 : decode cX11_ask 99 = .ok (.ifCond .ne 11, 3) := by decide +kernel
theorem dX11_ask_102 : decode cX11_ask 102 = .ok (.new 255, 3) := by decide +kernel
theorem dX11_ask_105 : decode cX11_ask 105 = .ok (.dup, 1) := by decide +kernel
theorem dX11_ask_106 : decode cX11_ask 106 = .ok (.invokespecial 257, 3) := by decide +kernel
theorem dX11_ask_109 : decode cX11_ask 109 = .ok (.athrow, 1) := by decide +kernel
theorem dX11_ask_110 : decode cX11_ask 110 = .ok (.aload_n 0, 1) := by decide +kernel
theorem dX11_ask_111 : decode cX11_ask 111 = .ok (.getfield 26, 3) := by decide +kernel
theorem dX11_ask_114 : decode cX11_ask 114 = .ok (.astore 7, 2) := by decide +kernel
theorem dX11_ask_116 : decode cX11_ask 116 = .ok (.aload_n 0, 1) := by decide +kernel
theorem dX11_ask_117 : decode cX11_ask 117 = .ok (.aload_n 0, 1) := by decide +kernel
theorem dX11_ask_118 : decode cX11_ask 118 = .ok (.getfield 30, 3) := by decide +kernel
theorem dX11_ask_121 : decode cX11_ask 121 = .ok (.putfield 26, 3) := by decide +kernel
theorem dX11_ask_124 : decode cX11_ask 124 = .ok (.aload_n 0, 1) := by decide +kernel
theorem dX11_ask_125 : decode cX11_ask 125 = .ok (.aload 7, 2) := by decide +kernel
theorem dX11_ask_127 : decode cX11_ask 127 = .ok (.putfield 30, 3) := by decide +kernel
theorem dX11_ask_130 : decode cX11_ask 130 = .ok (.aload_n 0, 1) := by decide +kernel
theorem dX11_ask_131 : decode cX11_ask 131 = .ok (.dup, 1) := by decide +kernel
theorem dX11_ask_132 : decode cX11_ask 132 = .ok (.getfield 55, 3) := by decide +kernel
theorem dX11_ask_135 : decode cX11_ask 135 = .ok (.iconst 1, 1) := by decide +kernel
theorem dX11_ask_136 : decode cX11_ask 136 = .ok (.iadd, 1) := by decide +kernel
theorem dX11_ask_137 : decode cX11_ask 137 = .ok (.putfield 55, 3) := by decide +kernel
theorem dX11_ask_140 : decode cX11_ask 140 = .ok (.aload_n 0, 1) := by decide +kernel
theorem dX11_ask_141 : decode cX11_ask 141 = .ok (.dup, 1) := by decide +kernel
theorem dX11_ask_142 : decode cX11_ask 142 = .ok (.getfield 59, 3) := by decide +kernel
theorem dX11_ask_145 : decode cX11_ask 145 = .ok (.aload_n 0, 1) := by decide +kernel
theorem dX11_ask_146 : decode cX11_ask 146 = .ok (.getfield 26, 3) := by decide +kernel
theorem dX11_ask_149 : decode cX11_ask 149 = .ok (.getfield 258, 3) := by decide +kernel
theorem dX11_ask_152 : decode cX11_ask 152 = .ok (.i2l, 1) := by decide +kernel
theorem dX11_ask_153 : decode cX11_ask 153 = .ok (.ladd, 1) := by decide +kernel
theorem dX11_ask_154 : decode cX11_ask 154 = .ok (.putfield 59, 3) := by decide +kernel
theorem dX11_ask_157 : decode cX11_ask 157 = .ok (.aload_n 0, 1) := by decide +kernel
theorem dX11_ask_158 : decode cX11_ask 158 = .ok (.getfield 26, 3) := by decide +kernel
theorem dX11_ask_161 : decode cX11_ask 161 = .ok (.invokevirtual 261, 3) := by decide +kernel
theorem dX11_ask_164 : decode cX11_ask 164 = .ok (.ireturn, 1) := by decide +kernel
set_option maxRecDepth 20000 in
theorem ggX11_ending_X11_refuseUnasked : GoodIn wsX11_ending wsX11_refuseUnasked := goodIn_ca (goodIn_r _ [6, 7, 8, 9, 10, 11, 12, 13, 14, 15, 16, 17, 18] (by decide +kernel) (by decide +kernel)) (goodIn_sub (fun _ h => List.mem_cons_of_mem _ (List.mem_append_right _ h)) (by decide +kernel))
set_option maxRecDepth 20000 in
theorem gX11_ending_X11_refuseUnasked : GoodIn wsX11_ending (wsV RX11 264 RX11 yX11_refuseUnasked wsX11_refuseUnasked) := goodIn_app (goodIn_of _ (by decide +kernel)) ggX11_ending_X11_refuseUnasked
theorem dX11_ending_0 : decode cX11_ending 0 = .ok (.aload_n 0, 1) := by decide +kernel
theorem dX11_ending_1 : decode cX11_ending 1 = .ok (.invokevirtual 264, 3) := by decide +kernel
theorem dX11_ending_4 : decode cX11_ending 4 = .ok (.aload_n 0, 1) := by decide +kernel
theorem dX11_ending_5 : decode cX11_ending 5 = .ok (.getfield 26, 3) := by decide +kernel
theorem dX11_ending_8 : decode cX11_ending 8 = .ok (.getfield 267, 3) := by decide +kernel
theorem dX11_ending_11 : decode cX11_ending 11 = .ok (.ireturn, 1) := by decide +kernel
set_option maxRecDepth 20000 in
theorem ggX11_answerAt_X11_refuseUnasked : GoodIn wsX11_answerAt wsX11_refuseUnasked := goodIn_ca (goodIn_r _ [8, 9, 10, 11, 46, 47, 48, 49, 50, 51, 52, 53, 54] (by decide +kernel) (by decide +kernel)) (goodIn_sub (fun _ h => List.mem_cons_of_mem _ (List.mem_append_left _ (List.mem_append_right _ h))) (by decide +kernel))
set_option maxRecDepth 20000 in
theorem gX11_answerAt_X11_refuseUnasked : GoodIn wsX11_answerAt (wsV RX11 264 RX11 yX11_refuseUnasked wsX11_refuseUnasked) := goodIn_app (goodIn_of _ (by decide +kernel)) ggX11_answerAt_X11_refuseUnasked
theorem dX11_answerAt_0 : decode cX11_answerAt 0 = .ok (.aload_n 0, 1) := by decide +kernel
theorem dX11_answerAt_1 : decode cX11_answerAt 1 = .ok (.invokevirtual 264, 3) := by decide +kernel
theorem dX11_answerAt_4 : decode cX11_answerAt 4 = .ok (.aload_n 0, 1) := by decide +kernel
theorem dX11_answerAt_5 : decode cX11_answerAt 5 = .ok (.getfield 26, 3) := by decide +kernel
theorem dX11_answerAt_8 : decode cX11_answerAt 8 = .ok (.iload_n 1, 1) := by decide +kernel
theorem dX11_answerAt_9 : decode cX11_answerAt 9 = .ok (.invokevirtual 271, 3) := by decide +kernel
theorem dX11_answerAt_12 : decode cX11_answerAt 12 = .ok (.ifCond .eq 14, 3) := by decide +kernel
theorem dX11_answerAt_15 : decode cX11_answerAt 15 = .ok (.aload_n 0, 1) := by decide +kernel
theorem dX11_answerAt_16 : decode cX11_answerAt 16 = .ok (.getfield 26, 3) := by decide +kernel
theorem dX11_answerAt_19 : decode cX11_answerAt 19 = .ok (.iload_n 2, 1) := by decide +kernel
theorem dX11_answerAt_20 : decode cX11_answerAt 20 = .ok (.invokevirtual 274, 3) := by decide +kernel
theorem dX11_answerAt_23 : decode cX11_answerAt 23 = .ok (.ifCond .ne 11, 3) := by decide +kernel
theorem dX11_answerAt_26 : decode cX11_answerAt 26 = .ok (.new 80, 3) := by decide +kernel
theorem dX11_answerAt_29 : decode cX11_answerAt 29 = .ok (.dup, 1) := by decide +kernel
theorem dX11_answerAt_30 : decode cX11_answerAt 30 = .ok (.invokespecial 82, 3) := by decide +kernel
theorem dX11_answerAt_33 : decode cX11_answerAt 33 = .ok (.athrow, 1) := by decide +kernel
theorem dX11_answerAt_34 : decode cX11_answerAt 34 = .ok (.aload_n 0, 1) := by decide +kernel
theorem dX11_answerAt_35 : decode cX11_answerAt 35 = .ok (.getfield 26, 3) := by decide +kernel
theorem dX11_answerAt_38 : decode cX11_answerAt 38 = .ok (.iload_n 1, 1) := by decide +kernel
theorem dX11_answerAt_39 : decode cX11_answerAt 39 = .ok (.iload_n 2, 1) := by decide +kernel
theorem dX11_answerAt_40 : decode cX11_answerAt 40 = .ok (.invokevirtual 277, 3) := by decide +kernel
theorem dX11_answerAt_43 : decode cX11_answerAt 43 = .ok (.ireturn, 1) := by decide +kernel
set_option maxRecDepth 20000 in
theorem ggX11_multiplicity_X11_refuseUnasked : GoodIn wsX11_multiplicity wsX11_refuseUnasked := goodIn_ca (goodIn_r _ [8, 9, 10, 11, 34, 35, 36, 37, 38, 39, 40, 41, 42] (by decide +kernel) (by decide +kernel)) (goodIn_sub (fun _ h => List.mem_cons_of_mem _ (List.mem_append_left _ (List.mem_append_right _ h))) (by decide +kernel))
set_option maxRecDepth 20000 in
theorem gX11_multiplicity_X11_refuseUnasked : GoodIn wsX11_multiplicity (wsV RX11 264 RX11 yX11_refuseUnasked wsX11_refuseUnasked) := goodIn_app (goodIn_of _ (by decide +kernel)) ggX11_multiplicity_X11_refuseUnasked
theorem dX11_multiplicity_0 : decode cX11_multiplicity 0 = .ok (.aload_n 0, 1) := by decide +kernel
theorem dX11_multiplicity_1 : decode cX11_multiplicity 1 = .ok (.invokevirtual 264, 3) := by decide +kernel
theorem dX11_multiplicity_4 : decode cX11_multiplicity 4 = .ok (.aload_n 0, 1) := by decide +kernel
theorem dX11_multiplicity_5 : decode cX11_multiplicity 5 = .ok (.getfield 26, 3) := by decide +kernel
theorem dX11_multiplicity_8 : decode cX11_multiplicity 8 = .ok (.iload_n 1, 1) := by decide +kernel
theorem dX11_multiplicity_9 : decode cX11_multiplicity 9 = .ok (.invokevirtual 271, 3) := by decide +kernel
theorem dX11_multiplicity_12 : decode cX11_multiplicity 12 = .ok (.ifCond .ne 11, 3) := by decide +kernel
theorem dX11_multiplicity_15 : decode cX11_multiplicity 15 = .ok (.new 80, 3) := by decide +kernel
theorem dX11_multiplicity_18 : decode cX11_multiplicity 18 = .ok (.dup, 1) := by decide +kernel
theorem dX11_multiplicity_19 : decode cX11_multiplicity 19 = .ok (.invokespecial 82, 3) := by decide +kernel
theorem dX11_multiplicity_22 : decode cX11_multiplicity 22 = .ok (.athrow, 1) := by decide +kernel
theorem dX11_multiplicity_23 : decode cX11_multiplicity 23 = .ok (.aload_n 0, 1) := by decide +kernel
theorem dX11_multiplicity_24 : decode cX11_multiplicity 24 = .ok (.getfield 26, 3) := by decide +kernel
theorem dX11_multiplicity_27 : decode cX11_multiplicity 27 = .ok (.iload_n 1, 1) := by decide +kernel
theorem dX11_multiplicity_28 : decode cX11_multiplicity 28 = .ok (.invokevirtual 280, 3) := by decide +kernel
theorem dX11_multiplicity_31 : decode cX11_multiplicity 31 = .ok (.ireturn, 1) := by decide +kernel
set_option maxRecDepth 20000 in
theorem ggX11_answersByBreadth_X11_refuseUnasked : GoodIn wsX11_answersByBreadth wsX11_refuseUnasked := goodIn_ca (goodIn_r _ [9, 10, 11, 12, 303, 304, 305, 306, 307, 308, 309, 310, 311] (by decide +kernel) (by decide +kernel)) (goodIn_sub (fun _ h => List.mem_cons_of_mem _ (List.mem_append_left _ (List.mem_append_right _ h))) (by decide +kernel))
set_option maxRecDepth 20000 in
theorem gX11_answersByBreadth_X11_refuseUnasked : GoodIn wsX11_answersByBreadth (wsV RX11 264 RX11 yX11_refuseUnasked wsX11_refuseUnasked) := goodIn_app (goodIn_of _ (by decide +kernel)) ggX11_answersByBreadth_X11_refuseUnasked
theorem dX11_answersByBreadth_0 : decode cX11_answersByBreadth 0 = .ok (.aload_n 0, 1) := by decide +kernel
theorem dX11_answersByBreadth_1 : decode cX11_answersByBreadth 1 = .ok (.invokevirtual 264, 3) := by decide +kernel
theorem dX11_answersByBreadth_4 : decode cX11_answersByBreadth 4 = .ok (.aload_n 0, 1) := by decide +kernel
theorem dX11_answersByBreadth_5 : decode cX11_answersByBreadth 5 = .ok (.getfield 26, 3) := by decide +kernel
theorem dX11_answersByBreadth_8 : decode cX11_answersByBreadth 8 = .ok (.getfield 283, 3) := by decide +kernel
theorem dX11_answersByBreadth_11 : decode cX11_answersByBreadth 11 = .ok (.ifCond .ne 29, 3) := by decide +kernel
theorem dX11_answersByBreadth_14 : decode cX11_answersByBreadth 14 = .ok (.aload_n 0, 1) := by decide +kernel
theorem dX11_answersByBreadth_15 : decode cX11_answersByBreadth 15 = .ok (.getfield 26, 3) := by decide +kernel
theorem dX11_answersByBreadth_18 : decode cX11_answersByBreadth 18 = .ok (.aload_n 0, 1) := by decide +kernel
theorem dX11_answersByBreadth_19 : decode cX11_answersByBreadth 19 = .ok (.getfield 47, 3) := by decide +kernel
theorem dX11_answersByBreadth_22 : decode cX11_answersByBreadth 22 = .ok (.aload_n 0, 1) := by decide +kernel
theorem dX11_answersByBreadth_23 : decode cX11_answersByBreadth 23 = .ok (.getfield 26, 3) := by decide +kernel
theorem dX11_answersByBreadth_26 : decode cX11_answersByBreadth 26 = .ok (.invokevirtual 286, 3) := by decide +kernel
theorem dX11_answersByBreadth_29 : decode cX11_answersByBreadth 29 = .ok (.putfield 290, 3) := by decide +kernel
theorem dX11_answersByBreadth_32 : decode cX11_answersByBreadth 32 = .ok (.aload_n 0, 1) := by decide +kernel
theorem dX11_answersByBreadth_33 : decode cX11_answersByBreadth 33 = .ok (.getfield 26, 3) := by decide +kernel
theorem dX11_answersByBreadth_36 : decode cX11_answersByBreadth 36 = .ok (.iconst 1, 1) := by decide +kernel
theorem dX11_answersByBreadth_37 : decode cX11_answersByBreadth 37 = .ok (.putfield 283, 3) := by decide +kernel
theorem dX11_answersByBreadth_40 : decode cX11_answersByBreadth 40 = .ok (.aload_n 0, 1) := by decide +kernel
theorem dX11_answersByBreadth_41 : decode cX11_answersByBreadth 41 = .ok (.getfield 26, 3) := by decide +kernel
theorem dX11_answersByBreadth_44 : decode cX11_answersByBreadth 44 = .ok (.getfield 290, 3) := by decide +kernel
theorem dX11_answersByBreadth_47 : decode cX11_answersByBreadth 47 = .ok (.iconst (-1), 1) := by decide +kernel
theorem dX11_answersByBreadth_48 : decode cX11_answersByBreadth 48 = .ok (.if_icmp .ne 11, 3) := by decide +kernel
theorem dX11_answersByBreadth_51 : decode cX11_answersByBreadth 51 = .ok (.new 255, 3) := by decide +kernel
theorem dX11_answersByBreadth_54 : decode cX11_answersByBreadth 54 = .ok (.dup, 1) := by decide +kernel
theorem dX11_answersByBreadth_55 : decode cX11_answersByBreadth 55 = .ok (.invokespecial 257, 3) := by decide +kernel
theorem dX11_answersByBreadth_58 : decode cX11_answersByBreadth 58 = .ok (.athrow, 1) := by decide +kernel
theorem dX11_answersByBreadth_59 : decode cX11_answersByBreadth 59 = .ok (.aload_n 0, 1) := by decide +kernel
theorem dX11_answersByBreadth_60 : decode cX11_answersByBreadth 60 = .ok (.getfield 26, 3) := by decide +kernel
theorem dX11_answersByBreadth_63 : decode cX11_answersByBreadth 63 = .ok (.getfield 290, 3) := by decide +kernel
theorem dX11_answersByBreadth_66 : decode cX11_answersByBreadth 66 = .ok (.ireturn, 1) := by decide +kernel
set_option maxRecDepth 20000 in
theorem ggX11_steps_X11_refuseUnasked : GoodIn wsX11_steps wsX11_refuseUnasked := goodIn_ca (goodIn_r _ [6, 7, 8, 9, 10, 11, 12, 13, 14, 15, 16, 17, 18] (by decide +kernel) (by decide +kernel)) (goodIn_sub (fun _ h => List.mem_cons_of_mem _ (List.mem_append_right _ h)) (by decide +kernel))
set_option maxRecDepth 20000 in
theorem gX11_steps_X11_refuseUnasked : GoodIn wsX11_steps (wsV RX11 264 RX11 yX11_refuseUnasked wsX11_refuseUnasked) := goodIn_app (goodIn_of _ (by decide +kernel)) ggX11_steps_X11_refuseUnasked
theorem dX11_steps_0 : decode cX11_steps 0 = .ok (.aload_n 0, 1) := by decide +kernel
theorem dX11_steps_1 : decode cX11_steps 1 = .ok (.invokevirtual 264, 3) := by decide +kernel
theorem dX11_steps_4 : decode cX11_steps 4 = .ok (.aload_n 0, 1) := by decide +kernel
theorem dX11_steps_5 : decode cX11_steps 5 = .ok (.getfield 26, 3) := by decide +kernel
theorem dX11_steps_8 : decode cX11_steps 8 = .ok (.getfield 258, 3) := by decide +kernel
theorem dX11_steps_11 : decode cX11_steps 11 = .ok (.ireturn, 1) := by decide +kernel
set_option maxRecDepth 20000 in
theorem ggX11_choicePoints_X11_refuseUnasked : GoodIn wsX11_choicePoints wsX11_refuseUnasked := goodIn_ca (goodIn_r _ [6, 7, 8, 9, 10, 11, 12, 13, 14, 15, 16, 17, 18] (by decide +kernel) (by decide +kernel)) (goodIn_sub (fun _ h => List.mem_cons_of_mem _ (List.mem_append_right _ h)) (by decide +kernel))
set_option maxRecDepth 20000 in
theorem gX11_choicePoints_X11_refuseUnasked : GoodIn wsX11_choicePoints (wsV RX11 264 RX11 yX11_refuseUnasked wsX11_refuseUnasked) := goodIn_app (goodIn_of _ (by decide +kernel)) ggX11_choicePoints_X11_refuseUnasked
theorem dX11_choicePoints_0 : decode cX11_choicePoints 0 = .ok (.aload_n 0, 1) := by decide +kernel
theorem dX11_choicePoints_1 : decode cX11_choicePoints 1 = .ok (.invokevirtual 264, 3) := by decide +kernel
theorem dX11_choicePoints_4 : decode cX11_choicePoints 4 = .ok (.aload_n 0, 1) := by decide +kernel
theorem dX11_choicePoints_5 : decode cX11_choicePoints 5 = .ok (.getfield 26, 3) := by decide +kernel
theorem dX11_choicePoints_8 : decode cX11_choicePoints 8 = .ok (.getfield 293, 3) := by decide +kernel
theorem dX11_choicePoints_11 : decode cX11_choicePoints 11 = .ok (.ireturn, 1) := by decide +kernel
set_option maxRecDepth 20000 in
theorem ggX11_deepest_X11_refuseUnasked : GoodIn wsX11_deepest wsX11_refuseUnasked := goodIn_ca (goodIn_r _ [6, 7, 8, 9, 10, 11, 12, 13, 14, 15, 16, 17, 18] (by decide +kernel) (by decide +kernel)) (goodIn_sub (fun _ h => List.mem_cons_of_mem _ (List.mem_append_right _ h)) (by decide +kernel))
set_option maxRecDepth 20000 in
theorem gX11_deepest_X11_refuseUnasked : GoodIn wsX11_deepest (wsV RX11 264 RX11 yX11_refuseUnasked wsX11_refuseUnasked) := goodIn_app (goodIn_of _ (by decide +kernel)) ggX11_deepest_X11_refuseUnasked
theorem dX11_deepest_0 : decode cX11_deepest 0 = .ok (.aload_n 0, 1) := by decide +kernel
theorem dX11_deepest_1 : decode cX11_deepest 1 = .ok (.invokevirtual 264, 3) := by decide +kernel
theorem dX11_deepest_4 : decode cX11_deepest 4 = .ok (.aload_n 0, 1) := by decide +kernel
theorem dX11_deepest_5 : decode cX11_deepest 5 = .ok (.getfield 26, 3) := by decide +kernel
theorem dX11_deepest_8 : decode cX11_deepest 8 = .ok (.getfield 296, 3) := by decide +kernel
theorem dX11_deepest_11 : decode cX11_deepest 11 = .ok (.ireturn, 1) := by decide +kernel
set_option maxRecDepth 20000 in
theorem ggX11_recorded_X11_refuseUnasked : GoodIn wsX11_recorded wsX11_refuseUnasked := goodIn_ca (goodIn_r _ [6, 7, 8, 9, 22, 23, 24, 25, 26, 27, 28, 29, 30] (by decide +kernel) (by decide +kernel)) (goodIn_sub (fun _ h => List.mem_cons_of_mem _ (List.mem_append_right _ h)) (by decide +kernel))
set_option maxRecDepth 20000 in
theorem gX11_recorded_X11_refuseUnasked : GoodIn wsX11_recorded (wsV RX11 264 RX11 yX11_refuseUnasked wsX11_refuseUnasked) := goodIn_app (goodIn_of _ (by decide +kernel)) ggX11_recorded_X11_refuseUnasked
theorem dX11_recorded_0 : decode cX11_recorded 0 = .ok (.aload_n 0, 1) := by decide +kernel
theorem dX11_recorded_1 : decode cX11_recorded 1 = .ok (.invokevirtual 264, 3) := by decide +kernel
theorem dX11_recorded_4 : decode cX11_recorded 4 = .ok (.aload_n 0, 1) := by decide +kernel
theorem dX11_recorded_5 : decode cX11_recorded 5 = .ok (.getfield 26, 3) := by decide +kernel
theorem dX11_recorded_8 : decode cX11_recorded 8 = .ok (.invokevirtual 299, 3) := by decide +kernel
theorem dX11_recorded_11 : decode cX11_recorded 11 = .ok (.ireturn, 1) := by decide +kernel
set_option maxRecDepth 20000 in
theorem ggX11_recordAt_X11_refuseMissingNote : GoodIn wsX11_recordAt wsX11_refuseMissingNote := goodIn_ca (goodIn_ca (goodIn_r _ [6, 7, 8, 1, 9, 10, 11, 5, 12, 13, 14, 15, 16, 17, 18, 19, 20, 21, 22, 23, 24, 25, 26, 27, 38, 39, 40, 41, 42, 43, 44, 45, 46, 47, 48, 49, 50, 51, 52, 53, 54, 55, 56, 57, 58, 59] (by decide +kernel) (by decide +kernel)) (goodIn_sub (fun _ h => List.mem_cons_of_mem _ (List.mem_append_left _ (List.mem_append_left _ (List.mem_append_right _ h)))) (by decide +kernel))) (goodIn_sub (fun _ h => List.mem_cons_of_mem _ (List.mem_append_left _ (List.mem_append_right _ h))) (by decide +kernel))
set_option maxRecDepth 20000 in
theorem gX11_recordAt_X11_refuseMissingNote : GoodIn wsX11_recordAt (wsV RX11 302 RX11 yX11_refuseMissingNote wsX11_refuseMissingNote) := goodIn_app (goodIn_of _ (by decide +kernel)) ggX11_recordAt_X11_refuseMissingNote
theorem dX11_recordAt_0 : decode cX11_recordAt 0 = .ok (.aload_n 0, 1) := by decide +kernel
theorem dX11_recordAt_1 : decode cX11_recordAt 1 = .ok (.iload_n 1, 1) := by decide +kernel
theorem dX11_recordAt_2 : decode cX11_recordAt 2 = .ok (.invokevirtual 302, 3) := by decide +kernel
theorem dX11_recordAt_5 : decode cX11_recordAt 5 = .ok (.aload_n 0, 1) := by decide +kernel
theorem dX11_recordAt_6 : decode cX11_recordAt 6 = .ok (.getfield 26, 3) := by decide +kernel
theorem dX11_recordAt_9 : decode cX11_recordAt 9 = .ok (.iload_n 1, 1) := by decide +kernel
theorem dX11_recordAt_10 : decode cX11_recordAt 10 = .ok (.invokevirtual 305, 3) := by decide +kernel
theorem dX11_recordAt_13 : decode cX11_recordAt 13 = .ok (.ireturn, 1) := by decide +kernel
set_option maxRecDepth 20000 in
theorem ggX11_whereAt_X11_refuseMissingNote : GoodIn wsX11_whereAt wsX11_refuseMissingNote := goodIn_ca (goodIn_ca (goodIn_r _ [6, 7, 8, 1, 9, 10, 11, 5, 12, 13, 14, 15, 16, 17, 18, 19, 20, 21, 22, 23, 24, 25, 26, 27, 38, 39, 40, 41, 42, 43, 44, 45, 46, 47, 48, 49, 50, 51, 52, 53, 54, 55, 56, 57, 58, 59] (by decide +kernel) (by decide +kernel)) (goodIn_sub (fun _ h => List.mem_cons_of_mem _ (List.mem_append_left _ (List.mem_append_left _ (List.mem_append_right _ h)))) (by decide +kernel))) (goodIn_sub (fun _ h => List.mem_cons_of_mem _ (List.mem_append_left _ (List.mem_append_right _ h))) (by decide +kernel))
set_option maxRecDepth 20000 in
theorem gX11_whereAt_X11_refuseMissingNote : GoodIn wsX11_whereAt (wsV RX11 302 RX11 yX11_refuseMissingNote wsX11_refuseMissingNote) := goodIn_app (goodIn_of _ (by decide +kernel)) ggX11_whereAt_X11_refuseMissingNote
theorem dX11_whereAt_0 : decode cX11_whereAt 0 = .ok (.aload_n 0, 1) := by decide +kernel
theorem dX11_whereAt_1 : decode cX11_whereAt 1 = .ok (.iload_n 1, 1) := by decide +kernel
theorem dX11_whereAt_2 : decode cX11_whereAt 2 = .ok (.invokevirtual 302, 3) := by decide +kernel
theorem dX11_whereAt_5 : decode cX11_whereAt 5 = .ok (.aload_n 0, 1) := by decide +kernel
theorem dX11_whereAt_6 : decode cX11_whereAt 6 = .ok (.getfield 26, 3) := by decide +kernel
theorem dX11_whereAt_9 : decode cX11_whereAt 9 = .ok (.iload_n 1, 1) := by decide +kernel
theorem dX11_whereAt_10 : decode cX11_whereAt 10 = .ok (.invokevirtual 309, 3) := by decide +kernel
theorem dX11_whereAt_13 : decode cX11_whereAt 13 = .ok (.ireturn, 1) := by decide +kernel
set_option maxRecDepth 20000 in
theorem ggX11_terms_X10_termCount : GoodIn wsX11_terms wsX10_termCount := goodIn_r _ [6, 7, 8, 9, 10, 11, 12, 13, 23, 24, 25, 26, 27, 28, 29, 30] (by decide +kernel) (by decide +kernel)
set_option maxRecDepth 20000 in
theorem gX11_terms_X10_termCount : GoodIn wsX11_terms (wsV RX11 312 RX10 yX10_termCount wsX10_termCount) := goodIn_app (goodIn_of _ (by decide +kernel)) ggX11_terms_X10_termCount
theorem dX11_terms_0 : decode cX11_terms 0 = .ok (.aload_n 0, 1) := by decide +kernel
theorem dX11_terms_1 : decode cX11_terms 1 = .ok (.getfield 10, 3) := by decide +kernel
theorem dX11_terms_4 : decode cX11_terms 4 = .ok (.invokevirtual 312, 3) := by decide +kernel
theorem dX11_terms_7 : decode cX11_terms 7 = .ok (.ireturn, 1) := by decide +kernel
set_option maxRecDepth 20000 in
theorem ggX11_onceShare_X11_refuseUncompiled : GoodIn wsX11_onceShare wsX11_refuseUncompiled := goodIn_ca (goodIn_r _ [8, 9, 10, 11, 46, 47, 48, 49, 50, 51, 52, 53, 54] (by decide +kernel) (by decide +kernel)) (goodIn_sub (fun _ h => List.mem_cons_of_mem _ (List.mem_append_right _ h)) (by decide +kernel))
set_option maxRecDepth 20000 in
theorem gX11_onceShare_X11_refuseUncompiled : GoodIn wsX11_onceShare (wsV RX11 199 RX11 yX11_refuseUncompiled wsX11_refuseUncompiled) := goodIn_app (goodIn_of _ (by decide +kernel)) ggX11_onceShare_X11_refuseUncompiled
theorem dX11_onceShare_0 : decode cX11_onceShare 0 = .ok (.aload_n 0, 1) := by decide +kernel
theorem dX11_onceShare_1 : decode cX11_onceShare 1 = .ok (.invokevirtual 199, 3) := by decide +kernel
theorem dX11_onceShare_4 : decode cX11_onceShare 4 = .ok (.aload_n 0, 1) := by decide +kernel
theorem dX11_onceShare_5 : decode cX11_onceShare 5 = .ok (.getfield 19, 3) := by decide +kernel
theorem dX11_onceShare_8 : decode cX11_onceShare 8 = .ok (.invokevirtual 315, 3) := by decide +kernel
theorem dX11_onceShare_11 : decode cX11_onceShare 11 = .ok (.istore_n 1, 1) := by decide +kernel
theorem dX11_onceShare_12 : decode cX11_onceShare 12 = .ok (.iload_n 1, 1) := by decide +kernel
theorem dX11_onceShare_13 : decode cX11_onceShare 13 = .ok (.ifCond .ne 11, 3) := by decide +kernel
theorem dX11_onceShare_16 : decode cX11_onceShare 16 = .ok (.new 318, 3) := by decide +kernel
theorem dX11_onceShare_19 : decode cX11_onceShare 19 = .ok (.dup, 1) := by decide +kernel
theorem dX11_onceShare_20 : decode cX11_onceShare 20 = .ok (.invokespecial 320, 3) := by decide +kernel
theorem dX11_onceShare_23 : decode cX11_onceShare 23 = .ok (.athrow, 1) := by decide +kernel
theorem dX11_onceShare_24 : decode cX11_onceShare 24 = .ok (.aload_n 0, 1) := by decide +kernel
theorem dX11_onceShare_25 : decode cX11_onceShare 25 = .ok (.getfield 19, 3) := by decide +kernel
theorem dX11_onceShare_28 : decode cX11_onceShare 28 = .ok (.invokevirtual 321, 3) := by decide +kernel
theorem dX11_onceShare_31 : decode cX11_onceShare 31 = .ok (.i2f, 1) := by decide +kernel
theorem dX11_onceShare_32 : decode cX11_onceShare 32 = .ok (.iload_n 1, 1) := by decide +kernel
theorem dX11_onceShare_33 : decode cX11_onceShare 33 = .ok (.i2f, 1) := by decide +kernel
theorem dX11_onceShare_34 : decode cX11_onceShare 34 = .ok (.fdiv, 1) := by decide +kernel
theorem dX11_onceShare_35 : decode cX11_onceShare 35 = .ok (.freturn, 1) := by decide +kernel
theorem dX11_meanSteps_0 : decode cX11_meanSteps 0 = .ok (.aload_n 0, 1) := by decide +kernel
theorem dX11_meanSteps_1 : decode cX11_meanSteps 1 = .ok (.getfield 55, 3) := by decide +kernel
theorem dX11_meanSteps_4 : decode cX11_meanSteps 4 = .ok (.ifCond .ne 11, 3) := by decide +kernel
theorem dX11_meanSteps_7 : decode cX11_meanSteps 7 = .ok (.new 318, 3) := by decide +kernel
theorem dX11_meanSteps_10 : decode cX11_meanSteps 10 = .ok (.dup, 1) := by decide +kernel
theorem dX11_meanSteps_11 : decode cX11_meanSteps 11 = .ok (.invokespecial 320, 3) := by decide +kernel
theorem dX11_meanSteps_14 : decode cX11_meanSteps 14 = .ok (.athrow, 1) := by decide +kernel
theorem dX11_meanSteps_15 : decode cX11_meanSteps 15 = .ok (.aload_n 0, 1) := by decide +kernel
theorem dX11_meanSteps_16 : decode cX11_meanSteps 16 = .ok (.getfield 59, 3) := by decide +kernel
theorem dX11_meanSteps_19 : decode cX11_meanSteps 19 = .ok (.l2d, 1) := by decide +kernel
theorem dX11_meanSteps_20 : decode cX11_meanSteps 20 = .ok (.aload_n 0, 1) := by decide +kernel
theorem dX11_meanSteps_21 : decode cX11_meanSteps 21 = .ok (.getfield 55, 3) := by decide +kernel
theorem dX11_meanSteps_24 : decode cX11_meanSteps 24 = .ok (.i2d, 1) := by decide +kernel
theorem dX11_meanSteps_25 : decode cX11_meanSteps 25 = .ok (.ddiv, 1) := by decide +kernel
theorem dX11_meanSteps_26 : decode cX11_meanSteps 26 = .ok (.dreturn, 1) := by decide +kernel
set_option maxRecDepth 20000 in
theorem ggX11_isTypeOrNone_X10_hasType : GoodIn wsX11_isTypeOrNone wsX10_hasType := goodIn_r _ [6, 7, 17, 18, 19, 20, 21] (by decide +kernel) (by decide +kernel)
set_option maxRecDepth 20000 in
theorem gX11_isTypeOrNone_X10_hasType : GoodIn wsX11_isTypeOrNone (wsV RX11 73 RX10 yX10_hasType wsX10_hasType) := goodIn_app (goodIn_of _ (by decide +kernel)) ggX11_isTypeOrNone_X10_hasType
theorem dX11_isTypeOrNone_0 : decode cX11_isTypeOrNone 0 = .ok (.iload_n 1, 1) := by decide +kernel
theorem dX11_isTypeOrNone_1 : decode cX11_isTypeOrNone 1 = .ok (.iconst (-1), 1) := by decide +kernel
theorem dX11_isTypeOrNone_2 : decode cX11_isTypeOrNone 2 = .ok (.if_icmp .eq 14, 3) := by decide +kernel
theorem dX11_isTypeOrNone_5 : decode cX11_isTypeOrNone 5 = .ok (.aload_n 0, 1) := by decide +kernel
theorem dX11_isTypeOrNone_6 : decode cX11_isTypeOrNone 6 = .ok (.getfield 10, 3) := by decide +kernel
theorem dX11_isTypeOrNone_9 : decode cX11_isTypeOrNone 9 = .ok (.iload_n 1, 1) := by decide +kernel
theorem dX11_isTypeOrNone_10 : decode cX11_isTypeOrNone 10 = .ok (.invokevirtual 73, 3) := by decide +kernel
theorem dX11_isTypeOrNone_13 : decode cX11_isTypeOrNone 13 = .ok (.ifCond .eq 7, 3) := by decide +kernel
theorem dX11_isTypeOrNone_16 : decode cX11_isTypeOrNone 16 = .ok (.iconst 1, 1) := by decide +kernel
theorem dX11_isTypeOrNone_17 : decode cX11_isTypeOrNone 17 = .ok (.goto 4, 3) := by decide +kernel
theorem dX11_isTypeOrNone_20 : decode cX11_isTypeOrNone 20 = .ok (.iconst 0, 1) := by decide +kernel
theorem dX11_isTypeOrNone_21 : decode cX11_isTypeOrNone 21 = .ok (.ireturn, 1) := by decide +kernel
theorem dX11_isPromise_0 : decode cX11_isPromise 0 = .ok (.iload_n 0, 1) := by decide +kernel
theorem dX11_isPromise_1 : decode cX11_isPromise 1 = .ok (.bipush 100, 2) := by decide +kernel
theorem dX11_isPromise_3 : decode cX11_isPromise 3 = .ok (.if_icmp .eq 21, 3) := by decide +kernel
theorem dX11_isPromise_6 : decode cX11_isPromise 6 = .ok (.iload_n 0, 1) := by decide +kernel
theorem dX11_isPromise_7 : decode cX11_isPromise 7 = .ok (.bipush 115, 2) := by decide +kernel
theorem dX11_isPromise_9 : decode cX11_isPromise 9 = .ok (.if_icmp .eq 15, 3) := by decide +kernel
theorem dX11_isPromise_12 : decode cX11_isPromise 12 = .ok (.iload_n 0, 1) := by decide +kernel
theorem dX11_isPromise_13 : decode cX11_isPromise 13 = .ok (.bipush 109, 2) := by decide +kernel
theorem dX11_isPromise_15 : decode cX11_isPromise 15 = .ok (.if_icmp .eq 9, 3) := by decide +kernel
theorem dX11_isPromise_18 : decode cX11_isPromise 18 = .ok (.iload_n 0, 1) := by decide +kernel
theorem dX11_isPromise_19 : decode cX11_isPromise 19 = .ok (.bipush 110, 2) := by decide +kernel
theorem dX11_isPromise_21 : decode cX11_isPromise 21 = .ok (.if_icmp .ne 7, 3) := by decide +kernel
theorem dX11_isPromise_24 : decode cX11_isPromise 24 = .ok (.iconst 1, 1) := by decide +kernel
theorem dX11_isPromise_25 : decode cX11_isPromise 25 = .ok (.goto 4, 3) := by decide +kernel
theorem dX11_isPromise_28 : decode cX11_isPromise 28 = .ok (.iconst 0, 1) := by decide +kernel
theorem dX11_isPromise_29 : decode cX11_isPromise 29 = .ok (.ireturn, 1) := by decide +kernel
theorem dX11_areVariables_0 : decode cX11_areVariables 0 = .ok (.iload_n 0, 1) := by decide +kernel
theorem dX11_areVariables_1 : decode cX11_areVariables 1 = .ok (.ifCond .lt 33, 3) := by decide +kernel
theorem dX11_areVariables_4 : decode cX11_areVariables 4 = .ok (.iload_n 0, 1) := by decide +kernel
theorem dX11_areVariables_5 : decode cX11_areVariables 5 = .ok (.bipush 8, 2) := by decide +kernel
theorem dX11_areVariables_7 : decode cX11_areVariables 7 = .ok (.if_icmp .ge 27, 3) := by decide +kernel
theorem dX11_areVariables_10 : decode cX11_areVariables 10 = .ok (.iload_n 1, 1) := by decide +kernel
theorem dX11_areVariables_11 : decode cX11_areVariables 11 = .ok (.ifCond .lt 23, 3) := by decide +kernel
theorem dX11_areVariables_14 : decode cX11_areVariables 14 = .ok (.iload_n 1, 1) := by decide +kernel
theorem dX11_areVariables_15 : decode cX11_areVariables 15 = .ok (.bipush 8, 2) := by decide +kernel
theorem dX11_areVariables_17 : decode cX11_areVariables 17 = .ok (.if_icmp .ge 17, 3) := by decide +kernel
theorem dX11_areVariables_20 : decode cX11_areVariables 20 = .ok (.iload_n 2, 1) := by decide +kernel
theorem dX11_areVariables_21 : decode cX11_areVariables 21 = .ok (.ifCond .lt 13, 3) := by decide +kernel
theorem dX11_areVariables_24 : decode cX11_areVariables 24 = .ok (.iload_n 2, 1) := by decide +kernel
theorem dX11_areVariables_25 : decode cX11_areVariables 25 = .ok (.bipush 8, 2) := by decide +kernel
theorem dX11_areVariables_27 : decode cX11_areVariables 27 = .ok (.if_icmp .ge 7, 3) := by decide +kernel
theorem dX11_areVariables_30 : decode cX11_areVariables 30 = .ok (.iconst 1, 1) := by decide +kernel
theorem dX11_areVariables_31 : decode cX11_areVariables 31 = .ok (.goto 4, 3) := by decide +kernel
theorem dX11_areVariables_34 : decode cX11_areVariables 34 = .ok (.iconst 0, 1) := by decide +kernel
theorem dX11_areVariables_35 : decode cX11_areVariables 35 = .ok (.ireturn, 1) := by decide +kernel
theorem dX11_pick_0 : decode cX11_pick 0 = .ok (.iload_n 0, 1) := by decide +kernel
theorem dX11_pick_1 : decode cX11_pick 1 = .ok (.ifCond .ne 7, 3) := by decide +kernel
theorem dX11_pick_4 : decode cX11_pick 4 = .ok (.iload_n 1, 1) := by decide +kernel
theorem dX11_pick_5 : decode cX11_pick 5 = .ok (.goto 13, 3) := by decide +kernel
theorem dX11_pick_8 : decode cX11_pick 8 = .ok (.iload_n 0, 1) := by decide +kernel
theorem dX11_pick_9 : decode cX11_pick 9 = .ok (.iconst 1, 1) := by decide +kernel
theorem dX11_pick_10 : decode cX11_pick 10 = .ok (.if_icmp .ne 7, 3) := by decide +kernel
theorem dX11_pick_13 : decode cX11_pick 13 = .ok (.iload_n 2, 1) := by decide +kernel
theorem dX11_pick_14 : decode cX11_pick 14 = .ok (.goto 4, 3) := by decide +kernel
theorem dX11_pick_17 : decode cX11_pick 17 = .ok (.iload_n 3, 1) := by decide +kernel
theorem dX11_pick_18 : decode cX11_pick 18 = .ok (.ireturn, 1) := by decide +kernel
theorem dX11_addGoal_0 : decode cX11_addGoal 0 = .ok (.aload_n 2, 1) := by decide +kernel
theorem dX11_addGoal_1 : decode cX11_addGoal 1 = .ok (.invokevirtual 324, 3) := by decide +kernel
theorem dX11_addGoal_4 : decode cX11_addGoal 4 = .ok (.ifCond .eq 16, 3) := by decide +kernel
theorem dX11_addGoal_7 : decode cX11_addGoal 7 = .ok (.aload_n 1, 1) := by decide +kernel
theorem dX11_addGoal_8 : decode cX11_addGoal 8 = .ok (.aload_n 2, 1) := by decide +kernel
theorem dX11_addGoal_9 : decode cX11_addGoal 9 = .ok (.iload_n 3, 1) := by decide +kernel
theorem dX11_addGoal_10 : decode cX11_addGoal 10 = .ok (.iload 4, 2) := by decide +kernel
theorem dX11_addGoal_12 : decode cX11_addGoal 12 = .ok (.iload 5, 2) := by decide +kernel
theorem dX11_addGoal_14 : decode cX11_addGoal 14 = .ok (.invokevirtual 328, 3) := by decide +kernel
theorem dX11_addGoal_17 : decode cX11_addGoal 17 = .ok (.ifCond .ne 11, 3) := by decide +kernel
theorem dX11_addGoal_20 : decode cX11_addGoal 20 = .ok (.new 83, 3) := by decide +kernel
theorem dX11_addGoal_23 : decode cX11_addGoal 23 = .ok (.dup, 1) := by decide +kernel
theorem dX11_addGoal_24 : decode cX11_addGoal 24 = .ok (.invokespecial 85, 3) := by decide +kernel
theorem dX11_addGoal_27 : decode cX11_addGoal 27 = .ok (.athrow, 1) := by decide +kernel
theorem dX11_addGoal_28 : decode cX11_addGoal 28 = .ok (.aload_n 1, 1) := by decide +kernel
theorem dX11_addGoal_29 : decode cX11_addGoal 29 = .ok (.invokevirtual 332, 3) := by decide +kernel
theorem dX11_addGoal_32 : decode cX11_addGoal 32 = .ok (.iconst 5, 1) := by decide +kernel
theorem dX11_addGoal_33 : decode cX11_addGoal 33 = .ok (.if_icmp .ge 10, 3) := by decide +kernel
theorem dX11_addGoal_36 : decode cX11_addGoal 36 = .ok (.aload_n 0, 1) := by decide +kernel
theorem dX11_addGoal_37 : decode cX11_addGoal 37 = .ok (.getfield 51, 3) := by decide +kernel
theorem dX11_addGoal_40 : decode cX11_addGoal 40 = .ok (.ifCond .eq 11, 3) := by decide +kernel
theorem dX11_addGoal_43 : decode cX11_addGoal 43 = .ok (.new 67, 3) := by decide +kernel
theorem dX11_addGoal_46 : decode cX11_addGoal 46 = .ok (.dup, 1) := by decide +kernel
theorem dX11_addGoal_47 : decode cX11_addGoal 47 = .ok (.invokespecial 69, 3) := by decide +kernel
theorem dX11_addGoal_50 : decode cX11_addGoal 50 = .ok (.athrow, 1) := by decide +kernel
theorem dX11_addGoal_51 : decode cX11_addGoal 51 = .ok (.aload_n 1, 1) := by decide +kernel
theorem dX11_addGoal_52 : decode cX11_addGoal 52 = .ok (.aload_n 2, 1) := by decide +kernel
theorem dX11_addGoal_53 : decode cX11_addGoal 53 = .ok (.iload_n 3, 1) := by decide +kernel
theorem dX11_addGoal_54 : decode cX11_addGoal 54 = .ok (.iload 4, 2) := by decide +kernel
theorem dX11_addGoal_56 : decode cX11_addGoal 56 = .ok (.iload 5, 2) := by decide +kernel
theorem dX11_addGoal_58 : decode cX11_addGoal 58 = .ok (.invokevirtual 335, 3) := by decide +kernel
theorem dX11_addGoal_61 : decode cX11_addGoal 61 = .ok (.ireturn, 1) := by decide +kernel
set_option maxRecDepth 20000 in
theorem ggX11_areInputsThere_X11_pick : GoodIn wsX11_areInputsThere wsX11_pick := goodIn_r _ [11] (by decide +kernel) (by decide +kernel)
set_option maxRecDepth 20000 in
theorem gX11_areInputsThere_X11_pick : GoodIn wsX11_areInputsThere (va_wsS RX11 342 yX11_pick wsX11_pick) := goodIn_app (goodIn_of _ (by decide +kernel)) ggX11_areInputsThere_X11_pick
set_option maxRecDepth 20000 in
theorem ggX11_areInputsThere_X10_hasTerm : GoodIn wsX11_areInputsThere wsX10_hasTerm := goodIn_r _ [16, 17, 18, 19, 20, 21, 22, 23, 42, 43, 44, 45, 46, 47, 48, 49] (by decide +kernel) (by decide +kernel)
set_option maxRecDepth 20000 in
theorem gX11_areInputsThere_X10_hasTerm : GoodIn wsX11_areInputsThere (wsV RX11 346 RX10 yX10_hasTerm wsX10_hasTerm) := goodIn_app (goodIn_of _ (by decide +kernel)) ggX11_areInputsThere_X10_hasTerm
theorem dX11_areInputsThere_0 : decode cX11_areInputsThere 0 = .ok (.iconst 0, 1) := by decide +kernel
theorem dX11_areInputsThere_1 : decode cX11_areInputsThere 1 = .ok (.istore 5, 2) := by decide +kernel
theorem dX11_areInputsThere_3 : decode cX11_areInputsThere 3 = .ok (.iload 5, 2) := by decide +kernel
theorem dX11_areInputsThere_5 : decode cX11_areInputsThere 5 = .ok (.iconst 3, 1) := by decide +kernel
theorem dX11_areInputsThere_6 : decode cX11_areInputsThere 6 = .ok (.if_icmp .ge 39, 3) := by decide +kernel
theorem dX11_areInputsThere_9 : decode cX11_areInputsThere 9 = .ok (.aload_n 1, 1) := by decide +kernel
theorem dX11_areInputsThere_10 : decode cX11_areInputsThere 10 = .ok (.iload 5, 2) := by decide +kernel
theorem dX11_areInputsThere_12 : decode cX11_areInputsThere 12 = .ok (.invokevirtual 339, 3) := by decide +kernel
theorem dX11_areInputsThere_15 : decode cX11_areInputsThere 15 = .ok (.ifCond .eq 24, 3) := by decide +kernel
theorem dX11_areInputsThere_18 : decode cX11_areInputsThere 18 = .ok (.aload_n 0, 1) := by decide +kernel
theorem dX11_areInputsThere_19 : decode cX11_areInputsThere 19 = .ok (.getfield 10, 3) := by decide +kernel
theorem dX11_areInputsThere_22 : decode cX11_areInputsThere 22 = .ok (.iload 5, 2) := by decide +kernel
theorem dX11_areInputsThere_24 : decode cX11_areInputsThere 24 = .ok (.iload_n 2, 1) := by decide +kernel
theorem dX11_areInputsThere_25 : decode cX11_areInputsThere 25 = .ok (.iload_n 3, 1) := by decide +kernel
theorem dX11_areInputsThere_26 : decode cX11_areInputsThere 26 = .ok (.iload 4, 2) := by decide +kernel
theorem dX11_areInputsThere_28 : decode cX11_areInputsThere 28 = .ok (.invokestatic 342, 3) := by decide +kernel
theorem dX11_areInputsThere_31 : decode cX11_areInputsThere 31 = .ok (.invokevirtual 346, 3) := by decide +kernel
theorem dX11_areInputsThere_34 : decode cX11_areInputsThere 34 = .ok (.ifCond .ne 5, 3) := by decide +kernel
theorem dX11_areInputsThere_37 : decode cX11_areInputsThere 37 = .ok (.iconst 0, 1) := by decide +kernel
theorem dX11_areInputsThere_38 : decode cX11_areInputsThere 38 = .ok (.ireturn, 1) := by decide +kernel
theorem dX11_areInputsThere_39 : decode cX11_areInputsThere 39 = .ok (.iinc 5 1, 3) := by decide +kernel
theorem dX11_areInputsThere_42 : decode cX11_areInputsThere 42 = .ok (.goto (-39), 3) := by decide +kernel
theorem dX11_areInputsThere_45 : decode cX11_areInputsThere 45 = .ok (.iconst 1, 1) := by decide +kernel
theorem dX11_areInputsThere_46 : decode cX11_areInputsThere 46 = .ok (.ireturn, 1) := by decide +kernel
set_option maxRecDepth 20000 in
theorem ggX11_doInputsFit_X11_pick : GoodIn wsX11_doInputsFit wsX11_pick := goodIn_r _ [5] (by decide +kernel) (by decide +kernel)
set_option maxRecDepth 20000 in
theorem gX11_doInputsFit_X11_pick : GoodIn wsX11_doInputsFit (va_wsS RX11 342 yX11_pick wsX11_pick) := goodIn_app (goodIn_of _ (by decide +kernel)) ggX11_doInputsFit_X11_pick
theorem dX11_doInputsFit_0 : decode cX11_doInputsFit 0 = .ok (.iconst 0, 1) := by decide +kernel
theorem dX11_doInputsFit_1 : decode cX11_doInputsFit 1 = .ok (.istore 5, 2) := by decide +kernel
theorem dX11_doInputsFit_3 : decode cX11_doInputsFit 3 = .ok (.iload 5, 2) := by decide +kernel
theorem dX11_doInputsFit_5 : decode cX11_doInputsFit 5 = .ok (.iconst 3, 1) := by decide +kernel
theorem dX11_doInputsFit_6 : decode cX11_doInputsFit 6 = .ok (.if_icmp .ge 84, 3) := by decide +kernel
theorem dX11_doInputsFit_9 : decode cX11_doInputsFit 9 = .ok (.iload 5, 2) := by decide +kernel
theorem dX11_doInputsFit_11 : decode cX11_doInputsFit 11 = .ok (.iload_n 2, 1) := by decide +kernel
theorem dX11_doInputsFit_12 : decode cX11_doInputsFit 12 = .ok (.iload_n 3, 1) := by decide +kernel
theorem dX11_doInputsFit_13 : decode cX11_doInputsFit 13 = .ok (.iload 4, 2) := by decide +kernel
theorem dX11_doInputsFit_15 : decode cX11_doInputsFit 15 = .ok (.invokestatic 342, 3) := by decide +kernel
theorem dX11_doInputsFit_18 : decode cX11_doInputsFit 18 = .ok (.istore 6, 2) := by decide +kernel
theorem dX11_doInputsFit_20 : decode cX11_doInputsFit 20 = .ok (.aload_n 1, 1) := by decide +kernel
theorem dX11_doInputsFit_21 : decode cX11_doInputsFit 21 = .ok (.iload 5, 2) := by decide +kernel
theorem dX11_doInputsFit_23 : decode cX11_doInputsFit 23 = .ok (.invokevirtual 339, 3) := by decide +kernel
theorem dX11_doInputsFit_26 : decode cX11_doInputsFit 26 = .ok (.ifCond .eq 39, 3) := by decide +kernel
theorem dX11_doInputsFit_29 : decode cX11_doInputsFit 29 = .ok (.aload_n 0, 1) := by decide +kernel
theorem dX11_doInputsFit_30 : decode cX11_doInputsFit 30 = .ok (.getfield 10, 3) := by decide +kernel
theorem dX11_doInputsFit_33 : decode cX11_doInputsFit 33 = .ok (.aload_n 0, 1) := by decide +kernel
theorem dX11_doInputsFit_34 : decode cX11_doInputsFit 34 = .ok (.getfield 10, 3) := by decide +kernel
theorem dX11_doInputsFit_37 : decode cX11_doInputsFit 37 = .ok (.iload 6, 2) := by decide +kernel
theorem dX11_doInputsFit_39 : decode cX11_doInputsFit 39 = .ok (.invokevirtual 110, 3) := by decide +kernel
theorem dX11_doInputsFit_42 : decode cX11_doInputsFit 42 = .ok (.invokevirtual 173, 3) := by decide +kernel
theorem dX11_doInputsFit_45 : decode cX11_doInputsFit 45 = .ok (.aload_n 1, 1) := by decide +kernel
theorem dX11_doInputsFit_46 : decode cX11_doInputsFit 46 = .ok (.getfield 349, 3) := by decide +kernel
theorem dX11_doInputsFit_49 : decode cX11_doInputsFit 49 = .ok (.iload 5, 2) := by decide +kernel
theorem dX11_doInputsFit_51 : decode cX11_doInputsFit 51 = .ok (.invokevirtual 191, 3) := by decide +kernel
theorem dX11_doInputsFit_54 : decode cX11_doInputsFit 54 = .ok (.if_icmp .ne 7, 3) := by decide +kernel
theorem dX11_doInputsFit_57 : decode cX11_doInputsFit 57 = .ok (.iconst 1, 1) := by decide +kernel
theorem dX11_doInputsFit_58 : decode cX11_doInputsFit 58 = .ok (.goto 17, 3) := by decide +kernel
theorem dX11_doInputsFit_61 : decode cX11_doInputsFit 61 = .ok (.iconst 0, 1) := by decide +kernel
theorem dX11_doInputsFit_62 : decode cX11_doInputsFit 62 = .ok (.goto 13, 3) := by decide +kernel
theorem dX11_doInputsFit_65 : decode cX11_doInputsFit 65 = .ok (.iload 6, 2) := by decide +kernel
theorem dX11_doInputsFit_67 : decode cX11_doInputsFit 67 = .ok (.ifCond .ne 7, 3) := by decide +kernel
theorem dX11_doInputsFit_70 : decode cX11_doInputsFit 70 = .ok (.iconst 1, 1) := by decide +kernel
theorem dX11_doInputsFit_71 : decode cX11_doInputsFit 71 = .ok (.goto 4, 3) := by decide +kernel
theorem dX11_doInputsFit_74 : decode cX11_doInputsFit 74 = .ok (.iconst 0, 1) := by decide +kernel
theorem dX11_doInputsFit_75 : decode cX11_doInputsFit 75 = .ok (.istore 7, 2) := by decide +kernel
theorem dX11_doInputsFit_77 : decode cX11_doInputsFit 77 = .ok (.iload 7, 2) := by decide +kernel
theorem dX11_doInputsFit_79 : decode cX11_doInputsFit 79 = .ok (.ifCond .ne 5, 3) := by decide +kernel
theorem dX11_doInputsFit_82 : decode cX11_doInputsFit 82 = .ok (.iconst 0, 1) := by decide +kernel
theorem dX11_doInputsFit_83 : decode cX11_doInputsFit 83 = .ok (.ireturn, 1) := by decide +kernel
theorem dX11_doInputsFit_84 : decode cX11_doInputsFit 84 = .ok (.iinc 5 1, 3) := by decide +kernel
theorem dX11_doInputsFit_87 : decode cX11_doInputsFit 87 = .ok (.goto (-84), 3) := by decide +kernel
theorem dX11_doInputsFit_90 : decode cX11_doInputsFit 90 = .ok (.iconst 1, 1) := by decide +kernel
theorem dX11_doInputsFit_91 : decode cX11_doInputsFit 91 = .ok (.ireturn, 1) := by decide +kernel
set_option maxRecDepth 20000 in
theorem ggX11_compiledMode_X7_modeAt : GoodIn wsX11_compiledMode wsX7_modeAt := goodIn_r _ [8, 9, 10, 11, 7, 12, 13, 14, 15, 16, 17, 18, 19, 20, 21, 22, 23, 24, 25, 26, 27, 28, 29, 30, 31, 32, 33, 34, 35, 36, 37, 38, 39, 40, 41, 42, 43, 44, 45, 46, 64, 65, 66, 67, 68, 69, 70, 71, 72, 73, 74] (by decide +kernel) (by decide +kernel)
set_option maxRecDepth 20000 in
theorem gX11_compiledMode_X7_modeAt : GoodIn wsX11_compiledMode (wsV RX11 237 RX7 yX7_modeAt wsX7_modeAt) := goodIn_app (goodIn_of _ (by decide +kernel)) ggX11_compiledMode_X7_modeAt
set_option maxRecDepth 20000 in
theorem ggX11_compiledMode_X11_refuseUncompiled : GoodIn wsX11_compiledMode wsX11_refuseUncompiled := goodIn_ca (goodIn_r _ [51, 52, 53, 54, 55, 56, 57, 58, 59, 60, 61, 62, 63] (by decide +kernel) (by decide +kernel)) (goodIn_sub (fun _ h => List.mem_cons_of_mem _ (List.mem_append_right _ h)) (by decide +kernel))
set_option maxRecDepth 20000 in
theorem gX11_compiledMode_X11_refuseUncompiled : GoodIn wsX11_compiledMode (wsV RX11 199 RX11 yX11_refuseUncompiled wsX11_refuseUncompiled) := goodIn_app (goodIn_of _ (by decide +kernel)) ggX11_compiledMode_X11_refuseUncompiled
theorem dX11_compiledMode_0 : decode cX11_compiledMode 0 = .ok (.aload_n 0, 1) := by decide +kernel
theorem dX11_compiledMode_1 : decode cX11_compiledMode 1 = .ok (.getfield 19, 3) := by decide +kernel
theorem dX11_compiledMode_4 : decode cX11_compiledMode 4 = .ok (.iload_n 1, 1) := by decide +kernel
theorem dX11_compiledMode_5 : decode cX11_compiledMode 5 = .ok (.iload_n 2, 1) := by decide +kernel
theorem dX11_compiledMode_6 : decode cX11_compiledMode 6 = .ok (.invokevirtual 237, 3) := by decide +kernel
theorem dX11_compiledMode_9 : decode cX11_compiledMode 9 = .ok (.astore_n 3, 1) := by decide +kernel
theorem dX11_compiledMode_10 : decode cX11_compiledMode 10 = .ok (.aload_n 3, 1) := by decide +kernel
theorem dX11_compiledMode_11 : decode cX11_compiledMode 11 = .ok (.ifnonnull 11, 3) := by decide +kernel
theorem dX11_compiledMode_14 : decode cX11_compiledMode 14 = .ok (.new 80, 3) := by decide +kernel
theorem dX11_compiledMode_17 : decode cX11_compiledMode 17 = .ok (.dup, 1) := by decide +kernel
theorem dX11_compiledMode_18 : decode cX11_compiledMode 18 = .ok (.invokespecial 82, 3) := by decide +kernel
theorem dX11_compiledMode_21 : decode cX11_compiledMode 21 = .ok (.athrow, 1) := by decide +kernel
theorem dX11_compiledMode_22 : decode cX11_compiledMode 22 = .ok (.aload_n 0, 1) := by decide +kernel
theorem dX11_compiledMode_23 : decode cX11_compiledMode 23 = .ok (.invokevirtual 199, 3) := by decide +kernel
theorem dX11_compiledMode_26 : decode cX11_compiledMode 26 = .ok (.aload_n 3, 1) := by decide +kernel
theorem dX11_compiledMode_27 : decode cX11_compiledMode 27 = .ok (.areturn, 1) := by decide +kernel
set_option maxRecDepth 20000 in
theorem ggX11_orderedClause_X7_clauseAt : GoodIn wsX11_orderedClause wsX7_clauseAt := goodIn_r _ [8, 9, 10, 11, 12, 13, 14, 15, 16, 17, 18, 19, 20, 21, 22, 23, 24, 25, 26, 27, 28, 29, 30, 31, 32, 33, 69, 70, 71, 72, 73, 74] (by decide +kernel) (by decide +kernel)
set_option maxRecDepth 20000 in
theorem gX11_orderedClause_X7_clauseAt : GoodIn wsX11_orderedClause (wsV RX11 161 RX7 yX7_clauseAt wsX7_clauseAt) := goodIn_app (goodIn_of _ (by decide +kernel)) ggX11_orderedClause_X7_clauseAt
set_option maxRecDepth 20000 in
theorem ggX11_orderedClause_X11_refuseUncompiled : GoodIn wsX11_orderedClause wsX11_refuseUncompiled := goodIn_ca (goodIn_r _ [47, 48, 49, 50, 51, 52, 53, 54, 55, 56, 57, 58, 59] (by decide +kernel) (by decide +kernel)) (goodIn_sub (fun _ h => List.mem_cons_of_mem _ (List.mem_append_right _ h)) (by decide +kernel))
set_option maxRecDepth 20000 in
theorem gX11_orderedClause_X11_refuseUncompiled : GoodIn wsX11_orderedClause (wsV RX11 199 RX11 yX11_refuseUncompiled wsX11_refuseUncompiled) := goodIn_app (goodIn_of _ (by decide +kernel)) ggX11_orderedClause_X11_refuseUncompiled
theorem dX11_orderedClause_0 : decode cX11_orderedClause 0 = .ok (.aload_n 0, 1) := by decide +kernel
theorem dX11_orderedClause_1 : decode cX11_orderedClause 1 = .ok (.getfield 19, 3) := by decide +kernel
theorem dX11_orderedClause_4 : decode cX11_orderedClause 4 = .ok (.iload_n 1, 1) := by decide +kernel
theorem dX11_orderedClause_5 : decode cX11_orderedClause 5 = .ok (.invokevirtual 161, 3) := by decide +kernel
theorem dX11_orderedClause_8 : decode cX11_orderedClause 8 = .ok (.astore_n 3, 1) := by decide +kernel
theorem dX11_orderedClause_9 : decode cX11_orderedClause 9 = .ok (.aload_n 3, 1) := by decide +kernel
theorem dX11_orderedClause_10 : decode cX11_orderedClause 10 = .ok (.ifnull 14, 3) := by decide +kernel
theorem dX11_orderedClause_13 : decode cX11_orderedClause 13 = .ok (.aload_n 3, 1) := by decide +kernel
theorem dX11_orderedClause_14 : decode cX11_orderedClause 14 = .ok (.getfield 353, 3) := by decide +kernel
theorem dX11_orderedClause_17 : decode cX11_orderedClause 17 = .ok (.iload_n 2, 1) := by decide +kernel
theorem dX11_orderedClause_18 : decode cX11_orderedClause 18 = .ok (.invokevirtual 354, 3) := by decide +kernel
theorem dX11_orderedClause_21 : decode cX11_orderedClause 21 = .ok (.ifnonnull 11, 3) := by decide +kernel
theorem dX11_orderedClause_24 : decode cX11_orderedClause 24 = .ok (.new 80, 3) := by decide +kernel
theorem dX11_orderedClause_27 : decode cX11_orderedClause 27 = .ok (.dup, 1) := by decide +kernel
theorem dX11_orderedClause_28 : decode cX11_orderedClause 28 = .ok (.invokespecial 82, 3) := by decide +kernel
theorem dX11_orderedClause_31 : decode cX11_orderedClause 31 = .ok (.athrow, 1) := by decide +kernel
theorem dX11_orderedClause_32 : decode cX11_orderedClause 32 = .ok (.aload_n 0, 1) := by decide +kernel
theorem dX11_orderedClause_33 : decode cX11_orderedClause 33 = .ok (.invokevirtual 199, 3) := by decide +kernel
theorem dX11_orderedClause_36 : decode cX11_orderedClause 36 = .ok (.aload_n 3, 1) := by decide +kernel
theorem dX11_orderedClause_37 : decode cX11_orderedClause 37 = .ok (.areturn, 1) := by decide +kernel
set_option maxRecDepth 20000 in
theorem ggX11_refuseMissingTerm_X10_hasTerm : GoodIn wsX11_refuseMissingTerm wsX10_hasTerm := goodIn_r _ [8, 9, 10, 11, 12, 13, 14, 15, 25, 26, 27, 28, 29, 30, 31, 32] (by decide +kernel) (by decide +kernel)
set_option maxRecDepth 20000 in
theorem gX11_refuseMissingTerm_X10_hasTerm : GoodIn wsX11_refuseMissingTerm (wsV RX11 346 RX10 yX10_hasTerm wsX10_hasTerm) := goodIn_app (goodIn_of _ (by decide +kernel)) ggX11_refuseMissingTerm_X10_hasTerm
theorem dX11_refuseMissingTerm_0 : decode cX11_refuseMissingTerm 0 = .ok (.aload_n 0, 1) := by decide +kernel
theorem dX11_refuseMissingTerm_1 : decode cX11_refuseMissingTerm 1 = .ok (.getfield 10, 3) := by decide +kernel
theorem dX11_refuseMissingTerm_4 : decode cX11_refuseMissingTerm 4 = .ok (.iload_n 1, 1) := by decide +kernel
theorem dX11_refuseMissingTerm_5 : decode cX11_refuseMissingTerm 5 = .ok (.invokevirtual 346, 3) := by decide +kernel
theorem dX11_refuseMissingTerm_8 : decode cX11_refuseMissingTerm 8 = .ok (.ifCond .ne 11, 3) := by decide +kernel
theorem dX11_refuseMissingTerm_11 : decode cX11_refuseMissingTerm 11 = .ok (.new 80, 3) := by decide +kernel
theorem dX11_refuseMissingTerm_14 : decode cX11_refuseMissingTerm 14 = .ok (.dup, 1) := by decide +kernel
theorem dX11_refuseMissingTerm_15 : decode cX11_refuseMissingTerm 15 = .ok (.invokespecial 82, 3) := by decide +kernel
theorem dX11_refuseMissingTerm_18 : decode cX11_refuseMissingTerm 18 = .ok (.athrow, 1) := by decide +kernel
theorem dX11_refuseMissingTerm_19 : decode cX11_refuseMissingTerm 19 = .ok (.return_, 1) := by decide +kernel
theorem dX11_refuseUncompiled_0 : decode cX11_refuseUncompiled 0 = .ok (.aload_n 0, 1) := by decide +kernel
theorem dX11_refuseUncompiled_1 : decode cX11_refuseUncompiled 1 = .ok (.getfield 51, 3) := by decide +kernel
theorem dX11_refuseUncompiled_4 : decode cX11_refuseUncompiled 4 = .ok (.ifCond .ne 11, 3) := by decide +kernel
theorem dX11_refuseUncompiled_7 : decode cX11_refuseUncompiled 7 = .ok (.new 67, 3) := by decide +kernel
theorem dX11_refuseUncompiled_10 : decode cX11_refuseUncompiled 10 = .ok (.dup, 1) := by decide +kernel
theorem dX11_refuseUncompiled_11 : decode cX11_refuseUncompiled 11 = .ok (.invokespecial 69, 3) := by decide +kernel
theorem dX11_refuseUncompiled_14 : decode cX11_refuseUncompiled 14 = .ok (.athrow, 1) := by decide +kernel
theorem dX11_refuseUncompiled_15 : decode cX11_refuseUncompiled 15 = .ok (.return_, 1) := by decide +kernel
theorem dX11_refuseUnasked_0 : decode cX11_refuseUnasked 0 = .ok (.aload_n 0, 1) := by decide +kernel
theorem dX11_refuseUnasked_1 : decode cX11_refuseUnasked 1 = .ok (.getfield 55, 3) := by decide +kernel
theorem dX11_refuseUnasked_4 : decode cX11_refuseUnasked 4 = .ok (.ifCond .ne 11, 3) := by decide +kernel
theorem dX11_refuseUnasked_7 : decode cX11_refuseUnasked 7 = .ok (.new 117, 3) := by decide +kernel
theorem dX11_refuseUnasked_10 : decode cX11_refuseUnasked 10 = .ok (.dup, 1) := by decide +kernel
theorem dX11_refuseUnasked_11 : decode cX11_refuseUnasked 11 = .ok (.invokespecial 119, 3) := by decide +kernel
theorem dX11_refuseUnasked_14 : decode cX11_refuseUnasked 14 = .ok (.athrow, 1) := by decide +kernel
theorem dX11_refuseUnasked_15 : decode cX11_refuseUnasked 15 = .ok (.return_, 1) := by decide +kernel
set_option maxRecDepth 20000 in
theorem ggX11_refuseMissingNote_X11_refuseUnasked : GoodIn wsX11_refuseMissingNote wsX11_refuseUnasked := goodIn_ca (goodIn_r _ [8, 9, 10, 11, 24, 25, 26, 27, 28, 29, 30, 31, 32] (by decide +kernel) (by decide +kernel)) (goodIn_sub (fun _ h => List.mem_cons_of_mem _ (List.mem_append_right _ h)) (by decide +kernel))
set_option maxRecDepth 20000 in
theorem gX11_refuseMissingNote_X11_refuseUnasked : GoodIn wsX11_refuseMissingNote (wsV RX11 264 RX11 yX11_refuseUnasked wsX11_refuseUnasked) := goodIn_app (goodIn_of _ (by decide +kernel)) ggX11_refuseMissingNote_X11_refuseUnasked
theorem dX11_refuseMissingNote_0 : decode cX11_refuseMissingNote 0 = .ok (.aload_n 0, 1) := by decide +kernel
theorem dX11_refuseMissingNote_1 : decode cX11_refuseMissingNote 1 = .ok (.invokevirtual 264, 3) := by decide +kernel
theorem dX11_refuseMissingNote_4 : decode cX11_refuseMissingNote 4 = .ok (.iload_n 1, 1) := by decide +kernel
theorem dX11_refuseMissingNote_5 : decode cX11_refuseMissingNote 5 = .ok (.ifCond .lt 14, 3) := by decide +kernel
theorem dX11_refuseMissingNote_8 : decode cX11_refuseMissingNote 8 = .ok (.iload_n 1, 1) := by decide +kernel
theorem dX11_refuseMissingNote_9 : decode cX11_refuseMissingNote 9 = .ok (.aload_n 0, 1) := by decide +kernel
theorem dX11_refuseMissingNote_10 : decode cX11_refuseMissingNote 10 = .ok (.getfield 26, 3) := by decide +kernel
theorem dX11_refuseMissingNote_13 : decode cX11_refuseMissingNote 13 = .ok (.invokevirtual 299, 3) := by decide +kernel
theorem dX11_refuseMissingNote_16 : decode cX11_refuseMissingNote 16 = .ok (.if_icmp .lt 11, 3) := by decide +kernel
theorem dX11_refuseMissingNote_19 : decode cX11_refuseMissingNote 19 = .ok (.new 80, 3) := by decide +kernel
theorem dX11_refuseMissingNote_22 : decode cX11_refuseMissingNote 22 = .ok (.dup, 1) := by decide +kernel
theorem dX11_refuseMissingNote_23 : decode cX11_refuseMissingNote 23 = .ok (.invokespecial 82, 3) := by decide +kernel
theorem dX11_refuseMissingNote_26 : decode cX11_refuseMissingNote 26 = .ok (.athrow, 1) := by decide +kernel
theorem dX11_refuseMissingNote_27 : decode cX11_refuseMissingNote 27 = .ok (.return_, 1) := by decide +kernel
theorem dX18_init_0 : decode cX18_init 0 = .ok (.aload_n 0, 1) := by decide +kernel
theorem dX18_init_1 : decode cX18_init 1 = .ok (.invokespecial 1, 3) := by decide +kernel
theorem dX18_init_4 : decode cX18_init 4 = .ok (.aload_n 0, 1) := by decide +kernel
theorem dX18_init_5 : decode cX18_init 5 = .ok (.bipush 10, 2) := by decide +kernel
theorem dX18_init_7 : decode cX18_init 7 = .ok (.newarray .int, 2) := by decide +kernel
theorem dX18_init_9 : decode cX18_init 9 = .ok (.putfield 7, 3) := by decide +kernel
theorem dX18_init_12 : decode cX18_init 12 = .ok (.aload_n 0, 1) := by decide +kernel
theorem dX18_init_13 : decode cX18_init 13 = .ok (.bipush 20, 2) := by decide +kernel
theorem dX18_init_15 : decode cX18_init 15 = .ok (.newarray .int, 2) := by decide +kernel
theorem dX18_init_17 : decode cX18_init 17 = .ok (.putfield 13, 3) := by decide +kernel
theorem dX18_init_20 : decode cX18_init 20 = .ok (.aload_n 0, 1) := by decide +kernel
theorem dX18_init_21 : decode cX18_init 21 = .ok (.sipush 200, 3) := by decide +kernel
theorem dX18_init_24 : decode cX18_init 24 = .ok (.newarray .int, 2) := by decide +kernel
theorem dX18_init_26 : decode cX18_init 26 = .ok (.putfield 16, 3) := by decide +kernel
theorem dX18_init_29 : decode cX18_init 29 = .ok (.aload_n 0, 1) := by decide +kernel
theorem dX18_init_30 : decode cX18_init 30 = .ok (.sipush 400, 3) := by decide +kernel
theorem dX18_init_33 : decode cX18_init 33 = .ok (.newarray .int, 2) := by decide +kernel
theorem dX18_init_35 : decode cX18_init 35 = .ok (.putfield 19, 3) := by decide +kernel
theorem dX18_init_38 : decode cX18_init 38 = .ok (.aload_n 0, 1) := by decide +kernel
theorem dX18_init_39 : decode cX18_init 39 = .ok (.sipush 200, 3) := by decide +kernel
theorem dX18_init_42 : decode cX18_init 42 = .ok (.newarray .long, 2) := by decide +kernel
theorem dX18_init_44 : decode cX18_init 44 = .ok (.putfield 22, 3) := by decide +kernel
theorem dX18_init_47 : decode cX18_init 47 = .ok (.aload_n 0, 1) := by decide +kernel
theorem dX18_init_48 : decode cX18_init 48 = .ok (.iconst 5, 1) := by decide +kernel
theorem dX18_init_49 : decode cX18_init 49 = .ok (.newarray .int, 2) := by decide +kernel
theorem dX18_init_51 : decode cX18_init 51 = .ok (.putfield 26, 3) := by decide +kernel
theorem dX18_init_54 : decode cX18_init 54 = .ok (.aload_n 0, 1) := by decide +kernel
theorem dX18_init_55 : decode cX18_init 55 = .ok (.bipush 15, 2) := by decide +kernel
theorem dX18_init_57 : decode cX18_init 57 = .ok (.newarray .int, 2) := by decide +kernel
theorem dX18_init_59 : decode cX18_init 59 = .ok (.putfield 29, 3) := by decide +kernel
theorem dX18_init_62 : decode cX18_init 62 = .ok (.aload_n 0, 1) := by decide +kernel
theorem dX18_init_63 : decode cX18_init 63 = .ok (.iconst 5, 1) := by decide +kernel
theorem dX18_init_64 : decode cX18_init 64 = .ok (.newarray .int, 2) := by decide +kernel
theorem dX18_init_66 : decode cX18_init 66 = .ok (.putfield 32, 3) := by decide +kernel
theorem dX18_init_69 : decode cX18_init 69 = .ok (.aload_n 0, 1) := by decide +kernel
theorem dX18_init_70 : decode cX18_init 70 = .ok (.bipush 10, 2) := by decide +kernel
theorem dX18_init_72 : decode cX18_init 72 = .ok (.newarray .int, 2) := by decide +kernel
theorem dX18_init_74 : decode cX18_init 74 = .ok (.putfield 35, 3) := by decide +kernel
theorem dX18_init_77 : decode cX18_init 77 = .ok (.aload_n 0, 1) := by decide +kernel
theorem dX18_init_78 : decode cX18_init 78 = .ok (.bipush 10, 2) := by decide +kernel
theorem dX18_init_80 : decode cX18_init 80 = .ok (.newarray .char, 2) := by decide +kernel
theorem dX18_init_82 : decode cX18_init 82 = .ok (.putfield 38, 3) := by decide +kernel
theorem dX18_init_85 : decode cX18_init 85 = .ok (.aload_n 0, 1) := by decide +kernel
theorem dX18_init_86 : decode cX18_init 86 = .ok (.bipush 12, 2) := by decide +kernel
theorem dX18_init_88 : decode cX18_init 88 = .ok (.newarray .int, 2) := by decide +kernel
theorem dX18_init_90 : decode cX18_init 90 = .ok (.putfield 42, 3) := by decide +kernel
theorem dX18_init_93 : decode cX18_init 93 = .ok (.aload_n 0, 1) := by decide +kernel
theorem dX18_init_94 : decode cX18_init 94 = .ok (.bipush 12, 2) := by decide +kernel
theorem dX18_init_96 : decode cX18_init 96 = .ok (.newarray .int, 2) := by decide +kernel
theorem dX18_init_98 : decode cX18_init 98 = .ok (.putfield 45, 3) := by decide +kernel
theorem dX18_init_101 : decode cX18_init 101 = .ok (.aload_n 0, 1) := by decide +kernel
theorem dX18_init_102 : decode cX18_init 102 = .ok (.bipush 96, 2) := by decide +kernel
theorem dX18_init_104 : decode cX18_init 104 = .ok (.newarray .int, 2) := by decide +kernel
theorem dX18_init_106 : decode cX18_init 106 = .ok (.putfield 48, 3) := by decide +kernel
theorem dX18_init_109 : decode cX18_init 109 = .ok (.aload_n 0, 1) := by decide +kernel
theorem dX18_init_110 : decode cX18_init 110 = .ok (.bipush 60, 2) := by decide +kernel
theorem dX18_init_112 : decode cX18_init 112 = .ok (.newarray .char, 2) := by decide +kernel
theorem dX18_init_114 : decode cX18_init 114 = .ok (.putfield 51, 3) := by decide +kernel
theorem dX18_init_117 : decode cX18_init 117 = .ok (.aload_n 0, 1) := by decide +kernel
theorem dX18_init_118 : decode cX18_init 118 = .ok (.bipush 60, 2) := by decide +kernel
theorem dX18_init_120 : decode cX18_init 120 = .ok (.newarray .int, 2) := by decide +kernel
theorem dX18_init_122 : decode cX18_init 122 = .ok (.putfield 54, 3) := by decide +kernel
theorem dX18_init_125 : decode cX18_init 125 = .ok (.aload_n 0, 1) := by decide +kernel
theorem dX18_init_126 : decode cX18_init 126 = .ok (.sipush 180, 3) := by decide +kernel
theorem dX18_init_129 : decode cX18_init 129 = .ok (.newarray .int, 2) := by decide +kernel
theorem dX18_init_131 : decode cX18_init 131 = .ok (.putfield 57, 3) := by decide +kernel
theorem dX18_init_134 : decode cX18_init 134 = .ok (.aload_n 0, 1) := by decide +kernel
theorem dX18_init_135 : decode cX18_init 135 = .ok (.bipush 24, 2) := by decide +kernel
theorem dX18_init_137 : decode cX18_init 137 = .ok (.newarray .int, 2) := by decide +kernel
theorem dX18_init_139 : decode cX18_init 139 = .ok (.putfield 60, 3) := by decide +kernel
theorem dX18_init_142 : decode cX18_init 142 = .ok (.aload_n 0, 1) := by decide +kernel
theorem dX18_init_143 : decode cX18_init 143 = .ok (.bipush 120, 2) := by decide +kernel
theorem dX18_init_145 : decode cX18_init 145 = .ok (.newarray .int, 2) := by decide +kernel
theorem dX18_init_147 : decode cX18_init 147 = .ok (.putfield 63, 3) := by decide +kernel
theorem dX18_init_150 : decode cX18_init 150 = .ok (.aload_n 0, 1) := by decide +kernel
theorem dX18_init_151 : decode cX18_init 151 = .ok (.bipush 120, 2) := by decide +kernel
theorem dX18_init_153 : decode cX18_init 153 = .ok (.newarray .int, 2) := by decide +kernel
theorem dX18_init_155 : decode cX18_init 155 = .ok (.putfield 66, 3) := by decide +kernel
theorem dX18_init_158 : decode cX18_init 158 = .ok (.aload_n 0, 1) := by decide +kernel
theorem dX18_init_159 : decode cX18_init 159 = .ok (.bipush 120, 2) := by decide +kernel
theorem dX18_init_161 : decode cX18_init 161 = .ok (.newarray .int, 2) := by decide +kernel
theorem dX18_init_163 : decode cX18_init 163 = .ok (.putfield 69, 3) := by decide +kernel
theorem dX18_init_166 : decode cX18_init 166 = .ok (.aload_n 0, 1) := by decide +kernel
theorem dX18_init_167 : decode cX18_init 167 = .ok (.bipush 10, 2) := by decide +kernel
theorem dX18_init_169 : decode cX18_init 169 = .ok (.newarray .boolean, 2) := by decide +kernel
theorem dX18_init_171 : decode cX18_init 171 = .ok (.putfield 72, 3) := by decide +kernel
theorem dX18_init_174 : decode cX18_init 174 = .ok (.aload_n 0, 1) := by decide +kernel
theorem dX18_init_175 : decode cX18_init 175 = .ok (.bipush 10, 2) := by decide +kernel
theorem dX18_init_177 : decode cX18_init 177 = .ok (.newarray .boolean, 2) := by decide +kernel
theorem dX18_init_179 : decode cX18_init 179 = .ok (.putfield 76, 3) := by decide +kernel
theorem dX18_init_182 : decode cX18_init 182 = .ok (.aload_n 0, 1) := by decide +kernel
theorem dX18_init_183 : decode cX18_init 183 = .ok (.bipush 10, 2) := by decide +kernel
theorem dX18_init_185 : decode cX18_init 185 = .ok (.newarray .boolean, 2) := by decide +kernel
theorem dX18_init_187 : decode cX18_init 187 = .ok (.putfield 79, 3) := by decide +kernel
theorem dX18_init_190 : decode cX18_init 190 = .ok (.aload_n 0, 1) := by decide +kernel
theorem dX18_init_191 : decode cX18_init 191 = .ok (.bipush 10, 2) := by decide +kernel
theorem dX18_init_193 : decode cX18_init 193 = .ok (.newarray .boolean, 2) := by decide +kernel
theorem dX18_init_195 : decode cX18_init 195 = .ok (.putfield 82, 3) := by decide +kernel
theorem dX18_init_198 : decode cX18_init 198 = .ok (.aload_n 0, 1) := by decide +kernel
theorem dX18_init_199 : decode cX18_init 199 = .ok (.bipush 10, 2) := by decide +kernel
theorem dX18_init_201 : decode cX18_init 201 = .ok (.newarray .int, 2) := by decide +kernel
theorem dX18_init_203 : decode cX18_init 203 = .ok (.putfield 85, 3) := by decide +kernel
theorem dX18_init_206 : decode cX18_init 206 = .ok (.aload_n 0, 1) := by decide +kernel
theorem dX18_init_207 : decode cX18_init 207 = .ok (.bipush 8, 2) := by decide +kernel
theorem dX18_init_209 : decode cX18_init 209 = .ok (.newarray .int, 2) := by decide +kernel
theorem dX18_init_211 : decode cX18_init 211 = .ok (.putfield 88, 3) := by decide +kernel
theorem dX18_init_214 : decode cX18_init 214 = .ok (.aload_n 0, 1) := by decide +kernel
theorem dX18_init_215 : decode cX18_init 215 = .ok (.iconst 3, 1) := by decide +kernel
theorem dX18_init_216 : decode cX18_init 216 = .ok (.newarray .int, 2) := by decide +kernel
theorem dX18_init_218 : decode cX18_init 218 = .ok (.putfield 91, 3) := by decide +kernel
theorem dX18_init_221 : decode cX18_init 221 = .ok (.aload_n 0, 1) := by decide +kernel
theorem dX18_init_222 : decode cX18_init 222 = .ok (.sipush 150, 3) := by decide +kernel
theorem dX18_init_225 : decode cX18_init 225 = .ok (.newarray .int, 2) := by decide +kernel
theorem dX18_init_227 : decode cX18_init 227 = .ok (.putfield 94, 3) := by decide +kernel
theorem dX18_init_230 : decode cX18_init 230 = .ok (.aload_n 0, 1) := by decide +kernel
theorem dX18_init_231 : decode cX18_init 231 = .ok (.bipush 80, 2) := by decide +kernel
theorem dX18_init_233 : decode cX18_init 233 = .ok (.newarray .char, 2) := by decide +kernel
theorem dX18_init_235 : decode cX18_init 235 = .ok (.putfield 97, 3) := by decide +kernel
theorem dX18_init_238 : decode cX18_init 238 = .ok (.aload_n 0, 1) := by decide +kernel
theorem dX18_init_239 : decode cX18_init 239 = .ok (.bipush 80, 2) := by decide +kernel
theorem dX18_init_241 : decode cX18_init 241 = .ok (.newarray .int, 2) := by decide +kernel
theorem dX18_init_243 : decode cX18_init 243 = .ok (.putfield 100, 3) := by decide +kernel
theorem dX18_init_246 : decode cX18_init 246 = .ok (.aload_n 0, 1) := by decide +kernel
theorem dX18_init_247 : decode cX18_init 247 = .ok (.sipush 150, 3) := by decide +kernel
theorem dX18_init_250 : decode cX18_init 250 = .ok (.newarray .int, 2) := by decide +kernel
theorem dX18_init_252 : decode cX18_init 252 = .ok (.putfield 103, 3) := by decide +kernel
theorem dX18_init_255 : decode cX18_init 255 = .ok (.aload_n 0, 1) := by decide +kernel
theorem dX18_init_256 : decode cX18_init 256 = .ok (.bipush 80, 2) := by decide +kernel
theorem dX18_init_258 : decode cX18_init 258 = .ok (.newarray .char, 2) := by decide +kernel
theorem dX18_init_260 : decode cX18_init 260 = .ok (.putfield 106, 3) := by decide +kernel
theorem dX18_init_263 : decode cX18_init 263 = .ok (.aload_n 0, 1) := by decide +kernel
theorem dX18_init_264 : decode cX18_init 264 = .ok (.bipush 80, 2) := by decide +kernel
theorem dX18_init_266 : decode cX18_init 266 = .ok (.newarray .int, 2) := by decide +kernel
theorem dX18_init_268 : decode cX18_init 268 = .ok (.putfield 109, 3) := by decide +kernel
theorem dX18_init_271 : decode cX18_init 271 = .ok (.aload_n 0, 1) := by decide +kernel
theorem dX18_init_272 : decode cX18_init 272 = .ok (.sipush 4000, 3) := by decide +kernel
theorem dX18_init_275 : decode cX18_init 275 = .ok (.anewarray 112, 3) := by decide +kernel
theorem dX18_init_278 : decode cX18_init 278 = .ok (.putfield 114, 3) := by decide +kernel
theorem dX18_init_281 : decode cX18_init 281 = .ok (.aload_n 0, 1) := by decide +kernel
theorem dX18_init_282 : decode cX18_init 282 = .ok (.sipush 4000, 3) := by decide +kernel
theorem dX18_init_285 : decode cX18_init 285 = .ok (.newarray .int, 2) := by decide +kernel
theorem dX18_init_287 : decode cX18_init 287 = .ok (.putfield 118, 3) := by decide +kernel
theorem dX18_init_290 : decode cX18_init 290 = .ok (.aload_n 0, 1) := by decide +kernel
theorem dX18_init_291 : decode cX18_init 291 = .ok (.bipush 64, 2) := by decide +kernel
theorem dX18_init_293 : decode cX18_init 293 = .ok (.anewarray 121, 3) := by decide +kernel
theorem dX18_init_296 : decode cX18_init 296 = .ok (.putfield 123, 3) := by decide +kernel
theorem dX18_init_299 : decode cX18_init 299 = .ok (.aload_n 0, 1) := by decide +kernel
theorem dX18_init_300 : decode cX18_init 300 = .ok (.bipush 64, 2) := by decide +kernel
theorem dX18_init_302 : decode cX18_init 302 = .ok (.anewarray 121, 3) := by decide +kernel
theorem dX18_init_305 : decode cX18_init 305 = .ok (.putfield 127, 3) := by decide +kernel
theorem dX18_init_308 : decode cX18_init 308 = .ok (.return_, 1) := by decide +kernel
theorem dX18_thrown_0 : decode cX18_thrown 0 = .ok (.aload_n 0, 1) := by decide +kernel
theorem dX18_thrown_1 : decode cX18_thrown 1 = .ok (.getfield 130, 3) := by decide +kernel
theorem dX18_thrown_4 : decode cX18_thrown 4 = .ok (.ireturn, 1) := by decide +kernel
theorem dX18_in_0 : decode cX18_in 0 = .ok (.iload_n 0, 1) := by decide +kernel
theorem dX18_in_1 : decode cX18_in 1 = .ok (.iload_n 1, 1) := by decide +kernel
theorem dX18_in_2 : decode cX18_in 2 = .ok (.if_icmp .lt 12, 3) := by decide +kernel
theorem dX18_in_5 : decode cX18_in 5 = .ok (.iload_n 0, 1) := by decide +kernel
theorem dX18_in_6 : decode cX18_in 6 = .ok (.iload_n 2, 1) := by decide +kernel
theorem dX18_in_7 : decode cX18_in 7 = .ok (.if_icmp .gt 7, 3) := by decide +kernel
theorem dX18_in_10 : decode cX18_in 10 = .ok (.iconst 1, 1) := by decide +kernel
theorem dX18_in_11 : decode cX18_in 11 = .ok (.goto 4, 3) := by decide +kernel
theorem dX18_in_14 : decode cX18_in 14 = .ok (.iconst 0, 1) := by decide +kernel
theorem dX18_in_15 : decode cX18_in 15 = .ok (.ireturn, 1) := by decide +kernel
theorem dX18_fails_0 : decode cX18_fails 0 = .ok (.aload_n 0, 1) := by decide +kernel
theorem dX18_fails_1 : decode cX18_fails 1 = .ok (.iload_n 1, 1) := by decide +kernel
theorem dX18_fails_2 : decode cX18_fails 2 = .ok (.putfield 130, 3) := by decide +kernel
theorem dX18_fails_5 : decode cX18_fails 5 = .ok (.iconst 0, 1) := by decide +kernel
theorem dX18_fails_6 : decode cX18_fails 6 = .ok (.ireturn, 1) := by decide +kernel
set_option maxRecDepth 20000 in
theorem ggX18_addType_X18_fails : GoodIn wsX18_addType wsX18_fails := goodIn_r _ [8, 1, 9, 10, 11, 12, 13, 14, 15, 16, 17, 18, 19, 20, 21, 22, 23, 24, 25, 26, 27, 28, 29, 30, 31, 32, 33, 34, 35, 36, 37, 38, 39, 40, 41, 42, 43, 44, 45, 46, 47, 48, 49, 50, 51, 52, 53, 54, 55, 56, 57, 58, 59, 60, 61, 62, 63, 64, 65, 66, 67, 68, 69, 70, 71, 72, 73, 74, 75, 76, 77, 78] (by decide +kernel) (by decide +kernel)
set_option maxRecDepth 20000 in
theorem gX18_addType_X18_fails : GoodIn wsX18_addType (wsV RX18 141 RX18 yX18_fails wsX18_fails) := goodIn_app (goodIn_of _ (by decide +kernel)) ggX18_addType_X18_fails
theorem dX18_addType_0 : decode cX18_addType 0 = .ok (.aload_n 0, 1) := by decide +kernel
theorem dX18_addType_1 : decode cX18_addType 1 = .ok (.iconst 0, 1) := by decide +kernel
theorem dX18_addType_2 : decode cX18_addType 2 = .ok (.putfield 130, 3) := by decide +kernel
theorem dX18_addType_5 : decode cX18_addType 5 = .ok (.aload_n 0, 1) := by decide +kernel
theorem dX18_addType_6 : decode cX18_addType 6 = .ok (.getfield 134, 3) := by decide +kernel
theorem dX18_addType_9 : decode cX18_addType 9 = .ok (.iconst 3, 1) := by decide +kernel
theorem dX18_addType_10 : decode cX18_addType 10 = .ok (.if_icmp .eq 10, 3) := by decide +kernel
theorem dX18_addType_13 : decode cX18_addType 13 = .ok (.aload_n 0, 1) := by decide +kernel
theorem dX18_addType_14 : decode cX18_addType 14 = .ok (.getfield 137, 3) := by decide +kernel
theorem dX18_addType_17 : decode cX18_addType 17 = .ok (.ifCond .eq 9, 3) := by decide +kernel
theorem dX18_addType_20 : decode cX18_addType 20 = .ok (.aload_n 0, 1) := by decide +kernel
theorem dX18_addType_21 : decode cX18_addType 21 = .ok (.iconst 1, 1) := by decide +kernel
theorem dX18_addType_22 : decode cX18_addType 22 = .ok (.invokevirtual 141, 3) := by decide +kernel
theorem dX18_addType_25 : decode cX18_addType 25 = .ok (.ireturn, 1) := by decide +kernel
theorem dX18_addType_26 : decode cX18_addType 26 = .ok (.aload_n 0, 1) := by decide +kernel
theorem dX18_addType_27 : decode cX18_addType 27 = .ok (.dup, 1) := by decide +kernel
theorem dX18_addType_28 : decode cX18_addType 28 = .ok (.getfield 134, 3) := by decide +kernel
theorem dX18_addType_31 : decode cX18_addType 31 = .ok (.iconst 1, 1) := by decide +kernel
theorem dX18_addType_32 : decode cX18_addType 32 = .ok (.iadd, 1) := by decide +kernel
theorem dX18_addType_33 : decode cX18_addType 33 = .ok (.putfield 134, 3) := by decide +kernel
theorem dX18_addType_36 : decode cX18_addType 36 = .ok (.aload_n 0, 1) := by decide +kernel
theorem dX18_addType_37 : decode cX18_addType 37 = .ok (.getfield 134, 3) := by decide +kernel
theorem dX18_addType_40 : decode cX18_addType 40 = .ok (.iconst 1, 1) := by decide +kernel
theorem dX18_addType_41 : decode cX18_addType 41 = .ok (.isub, 1) := by decide +kernel
theorem dX18_addType_42 : decode cX18_addType 42 = .ok (.ireturn, 1) := by decide +kernel
set_option maxRecDepth 20000 in
theorem ggX18_addConstructor_X18_in : GoodIn wsX18_addConstructor wsX18_in := goodIn_r _ [10] (by decide +kernel) (by decide +kernel)
set_option maxRecDepth 20000 in
theorem gX18_addConstructor_X18_in : GoodIn wsX18_addConstructor (va_wsS RX18 145 yX18_in wsX18_in) := goodIn_app (goodIn_of _ (by decide +kernel)) ggX18_addConstructor_X18_in
set_option maxRecDepth 20000 in
theorem ggX18_addConstructor_X18_fails : GoodIn wsX18_addConstructor wsX18_fails := goodIn_r _ [14, 1, 15, 16, 17, 18, 19, 20, 21, 22, 23, 24, 25, 26, 27, 28, 29, 30, 31, 32, 33, 34, 35, 36, 37, 38, 39, 40, 41, 42, 43, 44, 45, 46, 47, 48, 49, 50, 51, 52, 53, 54, 55, 56, 57, 58, 59, 60, 61, 62, 63, 64, 65, 66, 67, 68, 69, 70, 71, 72, 73, 74, 75, 76, 77, 78, 79, 80, 81, 82, 83, 84] (by decide +kernel) (by decide +kernel)
set_option maxRecDepth 20000 in
theorem gX18_addConstructor_X18_fails : GoodIn wsX18_addConstructor (wsV RX18 141 RX18 yX18_fails wsX18_fails) := goodIn_app (goodIn_of _ (by decide +kernel)) ggX18_addConstructor_X18_fails
theorem dX18_addConstructor_0 : decode cX18_addConstructor 0 = .ok (.aload_n 0, 1) := by decide +kernel
theorem dX18_addConstructor_1 : decode cX18_addConstructor 1 = .ok (.iconst 0, 1) := by decide +kernel
theorem dX18_addConstructor_2 : decode cX18_addConstructor 2 = .ok (.putfield 130, 3) := by decide +kernel
theorem dX18_addConstructor_5 : decode cX18_addConstructor 5 = .ok (.iload_n 1, 1) := by decide +kernel
theorem dX18_addConstructor_6 : decode cX18_addConstructor 6 = .ok (.iconst 0, 1) := by decide +kernel
theorem dX18_addConstructor_7 : decode cX18_addConstructor 7 = .ok (.aload_n 0, 1) := by decide +kernel
theorem dX18_addConstructor_8 : decode cX18_addConstructor 8 = .ok (.getfield 134, 3) := by decide +kernel
theorem dX18_addConstructor_11 : decode cX18_addConstructor 11 = .ok (.iconst 1, 1) := by decide +kernel
theorem dX18_addConstructor_12 : decode cX18_addConstructor 12 = .ok (.isub, 1) := by decide +kernel
theorem dX18_addConstructor_13 : decode cX18_addConstructor 13 = .ok (.invokestatic 145, 3) := by decide +kernel
theorem dX18_addConstructor_16 : decode cX18_addConstructor 16 = .ok (.ifCond .eq 31, 3) := by decide +kernel
theorem dX18_addConstructor_19 : decode cX18_addConstructor 19 = .ok (.iload_n 2, 1) := by decide +kernel
theorem dX18_addConstructor_20 : decode cX18_addConstructor 20 = .ok (.iconst (-1), 1) := by decide +kernel
theorem dX18_addConstructor_21 : decode cX18_addConstructor 21 = .ok (.aload_n 0, 1) := by decide +kernel
theorem dX18_addConstructor_22 : decode cX18_addConstructor 22 = .ok (.getfield 134, 3) := by decide +kernel
theorem dX18_addConstructor_25 : decode cX18_addConstructor 25 = .ok (.iconst 1, 1) := by decide +kernel
theorem dX18_addConstructor_26 : decode cX18_addConstructor 26 = .ok (.isub, 1) := by decide +kernel
theorem dX18_addConstructor_27 : decode cX18_addConstructor 27 = .ok (.invokestatic 145, 3) := by decide +kernel
theorem dX18_addConstructor_30 : decode cX18_addConstructor 30 = .ok (.ifCond .eq 17, 3) := by decide +kernel
theorem dX18_addConstructor_33 : decode cX18_addConstructor 33 = .ok (.iload_n 3, 1) := by decide +kernel
theorem dX18_addConstructor_34 : decode cX18_addConstructor 34 = .ok (.iconst (-1), 1) := by decide +kernel
theorem dX18_addConstructor_35 : decode cX18_addConstructor 35 = .ok (.aload_n 0, 1) := by decide +kernel
theorem dX18_addConstructor_36 : decode cX18_addConstructor 36 = .ok (.getfield 134, 3) := by decide +kernel
theorem dX18_addConstructor_39 : decode cX18_addConstructor 39 = .ok (.iconst 1, 1) := by decide +kernel
theorem dX18_addConstructor_40 : decode cX18_addConstructor 40 = .ok (.isub, 1) := by decide +kernel
theorem dX18_addConstructor_41 : decode cX18_addConstructor 41 = .ok (.invokestatic 145, 3) := by decide +kernel
theorem dX18_addConstructor_44 : decode cX18_addConstructor 44 = .ok (.ifCond .ne 9, 3) := by decide +kernel
theorem dX18_addConstructor_47 : decode cX18_addConstructor 47 = .ok (.aload_n 0, 1) := by decide +kernel
theorem dX18_addConstructor_48 : decode cX18_addConstructor 48 = .ok (.iconst 1, 1) := by decide +kernel
theorem dX18_addConstructor_49 : decode cX18_addConstructor 49 = .ok (.invokevirtual 141, 3) := by decide +kernel
theorem dX18_addConstructor_52 : decode cX18_addConstructor 52 = .ok (.ireturn, 1) := by decide +kernel
theorem dX18_addConstructor_53 : decode cX18_addConstructor 53 = .ok (.iload_n 2, 1) := by decide +kernel
theorem dX18_addConstructor_54 : decode cX18_addConstructor 54 = .ok (.iconst (-1), 1) := by decide +kernel
theorem dX18_addConstructor_55 : decode cX18_addConstructor 55 = .ok (.if_icmp .ne 14, 3) := by decide +kernel
theorem dX18_addConstructor_58 : decode cX18_addConstructor 58 = .ok (.iload_n 3, 1) := by decide +kernel
theorem dX18_addConstructor_59 : decode cX18_addConstructor 59 = .ok (.iconst (-1), 1) := by decide +kernel
theorem dX18_addConstructor_60 : decode cX18_addConstructor 60 = .ok (.if_icmp .eq 9, 3) := by decide +kernel
theorem dX18_addConstructor_63 : decode cX18_addConstructor 63 = .ok (.aload_n 0, 1) := by decide +kernel
theorem dX18_addConstructor_64 : decode cX18_addConstructor 64 = .ok (.iconst 2, 1) := by decide +kernel
theorem dX18_addConstructor_65 : decode cX18_addConstructor 65 = .ok (.invokevirtual 141, 3) := by decide +kernel
theorem dX18_addConstructor_68 : decode cX18_addConstructor 68 = .ok (.ireturn, 1) := by decide +kernel
theorem dX18_addConstructor_69 : decode cX18_addConstructor 69 = .ok (.aload_n 0, 1) := by decide +kernel
theorem dX18_addConstructor_70 : decode cX18_addConstructor 70 = .ok (.getfield 149, 3) := by decide +kernel
theorem dX18_addConstructor_73 : decode cX18_addConstructor 73 = .ok (.bipush 10, 2) := by decide +kernel
theorem dX18_addConstructor_75 : decode cX18_addConstructor 75 = .ok (.if_icmp .eq 10, 3) := by decide +kernel
theorem dX18_addConstructor_78 : decode cX18_addConstructor 78 = .ok (.aload_n 0, 1) := by decide +kernel
theorem dX18_addConstructor_79 : decode cX18_addConstructor 79 = .ok (.getfield 137, 3) := by decide +kernel
theorem dX18_addConstructor_82 : decode cX18_addConstructor 82 = .ok (.ifCond .eq 9, 3) := by decide +kernel
theorem dX18_addConstructor_85 : decode cX18_addConstructor 85 = .ok (.aload_n 0, 1) := by decide +kernel
theorem dX18_addConstructor_86 : decode cX18_addConstructor 86 = .ok (.iconst 3, 1) := by decide +kernel
theorem dX18_addConstructor_87 : decode cX18_addConstructor 87 = .ok (.invokevirtual 141, 3) := by decide +kernel
theorem dX18_addConstructor_90 : decode cX18_addConstructor 90 = .ok (.ireturn, 1) := by decide +kernel
theorem dX18_addConstructor_91 : decode cX18_addConstructor 91 = .ok (.aload_n 0, 1) := by decide +kernel
theorem dX18_addConstructor_92 : decode cX18_addConstructor 92 = .ok (.getfield 7, 3) := by decide +kernel
theorem dX18_addConstructor_95 : decode cX18_addConstructor 95 = .ok (.aload_n 0, 1) := by decide +kernel
theorem dX18_addConstructor_96 : decode cX18_addConstructor 96 = .ok (.getfield 149, 3) := by decide +kernel
theorem dX18_addConstructor_99 : decode cX18_addConstructor 99 = .ok (.iload_n 1, 1) := by decide +kernel
theorem dX18_addConstructor_100 : decode cX18_addConstructor 100 = .ok (.iastore, 1) := by decide +kernel
theorem dX18_addConstructor_101 : decode cX18_addConstructor 101 = .ok (.aload_n 0, 1) := by decide +kernel
theorem dX18_addConstructor_102 : decode cX18_addConstructor 102 = .ok (.getfield 13, 3) := by decide +kernel
theorem dX18_addConstructor_105 : decode cX18_addConstructor 105 = .ok (.iconst 2, 1) := by decide +kernel
theorem dX18_addConstructor_106 : decode cX18_addConstructor 106 = .ok (.aload_n 0, 1) := by decide +kernel
theorem dX18_addConstructor_107 : decode cX18_addConstructor 107 = .ok (.getfield 149, 3) := by decide +kernel
theorem dX18_addConstructor_110 : decode cX18_addConstructor 110 = .ok (.imul, 1) := by decide +kernel
theorem dX18_addConstructor_111 : decode cX18_addConstructor 111 = .ok (.iload_n 2, 1) := by decide +kernel
theorem dX18_addConstructor_112 : decode cX18_addConstructor 112 = .ok (.iastore, 1) := by decide +kernel
theorem dX18_addConstructor_113 : decode cX18_addConstructor 113 = .ok (.aload_n 0, 1) := by decide +kernel
theorem dX18_addConstructor_114 : decode cX18_addConstructor 114 = .ok (.getfield 13, 3) := by decide +kernel
theorem dX18_addConstructor_117 : decode cX18_addConstructor 117 = .ok (.iconst 2, 1) := by decide +kernel
theorem dX18_addConstructor_118 : decode cX18_addConstructor 118 = .ok (.aload_n 0, 1) := by decide +kernel
theorem dX18_addConstructor_119 : decode cX18_addConstructor 119 = .ok (.getfield 149, 3) := by decide +kernel
theorem dX18_addConstructor_122 : decode cX18_addConstructor 122 = .ok (.imul, 1) := by decide +kernel
theorem dX18_addConstructor_123 : decode cX18_addConstructor 123 = .ok (.iconst 1, 1) := by decide +kernel
theorem dX18_addConstructor_124 : decode cX18_addConstructor 124 = .ok (.iadd, 1) := by decide +kernel
theorem dX18_addConstructor_125 : decode cX18_addConstructor 125 = .ok (.iload_n 3, 1) := by decide +kernel
theorem dX18_addConstructor_126 : decode cX18_addConstructor 126 = .ok (.iastore, 1) := by decide +kernel
theorem dX18_addConstructor_127 : decode cX18_addConstructor 127 = .ok (.aload_n 0, 1) := by decide +kernel
theorem dX18_addConstructor_128 : decode cX18_addConstructor 128 = .ok (.dup, 1) := by decide +kernel
theorem dX18_addConstructor_129 : decode cX18_addConstructor 129 = .ok (.getfield 149, 3) := by decide +kernel
theorem dX18_addConstructor_132 : decode cX18_addConstructor 132 = .ok (.iconst 1, 1) := by decide +kernel
theorem dX18_addConstructor_133 : decode cX18_addConstructor 133 = .ok (.iadd, 1) := by decide +kernel
theorem dX18_addConstructor_134 : decode cX18_addConstructor 134 = .ok (.putfield 149, 3) := by decide +kernel
theorem dX18_addConstructor_137 : decode cX18_addConstructor 137 = .ok (.aload_n 0, 1) := by decide +kernel
theorem dX18_addConstructor_138 : decode cX18_addConstructor 138 = .ok (.getfield 149, 3) := by decide +kernel
theorem dX18_addConstructor_141 : decode cX18_addConstructor 141 = .ok (.iconst 1, 1) := by decide +kernel
theorem dX18_addConstructor_142 : decode cX18_addConstructor 142 = .ok (.isub, 1) := by decide +kernel
theorem dX18_addConstructor_143 : decode cX18_addConstructor 143 = .ok (.ireturn, 1) := by decide +kernel
theorem dX18_parts_0 : decode cX18_parts 0 = .ok (.aload_n 0, 1) := by decide +kernel
theorem dX18_parts_1 : decode cX18_parts 1 = .ok (.getfield 13, 3) := by decide +kernel
theorem dX18_parts_4 : decode cX18_parts 4 = .ok (.iconst 2, 1) := by decide +kernel
theorem dX18_parts_5 : decode cX18_parts 5 = .ok (.iload_n 1, 1) := by decide +kernel
theorem dX18_parts_6 : decode cX18_parts 6 = .ok (.imul, 1) := by decide +kernel
theorem dX18_parts_7 : decode cX18_parts 7 = .ok (.iaload, 1) := by decide +kernel
theorem dX18_parts_8 : decode cX18_parts 8 = .ok (.iconst (-1), 1) := by decide +kernel
theorem dX18_parts_9 : decode cX18_parts 9 = .ok (.if_icmp .ne 7, 3) := by decide +kernel
theorem dX18_parts_12 : decode cX18_parts 12 = .ok (.iconst 0, 1) := by decide +kernel
theorem dX18_parts_13 : decode cX18_parts 13 = .ok (.goto 22, 3) := by decide +kernel
theorem dX18_parts_16 : decode cX18_parts 16 = .ok (.aload_n 0, 1) := by decide +kernel
theorem dX18_parts_17 : decode cX18_parts 17 = .ok (.getfield 13, 3) := by decide +kernel
theorem dX18_parts_20 : decode cX18_parts 20 = .ok (.iconst 2, 1) := by decide +kernel
theorem dX18_parts_21 : decode cX18_parts 21 = .ok (.iload_n 1, 1) := by decide +kernel
theorem dX18_parts_22 : decode cX18_parts 22 = .ok (.imul, 1) := by decide +kernel
theorem dX18_parts_23 : decode cX18_parts 23 = .ok (.iconst 1, 1) := by decide +kernel
theorem dX18_parts_24 : decode cX18_parts 24 = .ok (.iadd, 1) := by decide +kernel
theorem dX18_parts_25 : decode cX18_parts 25 = .ok (.iaload, 1) := by decide +kernel
theorem dX18_parts_26 : decode cX18_parts 26 = .ok (.iconst (-1), 1) := by decide +kernel
theorem dX18_parts_27 : decode cX18_parts 27 = .ok (.if_icmp .ne 7, 3) := by decide +kernel
theorem dX18_parts_30 : decode cX18_parts 30 = .ok (.iconst 1, 1) := by decide +kernel
theorem dX18_parts_31 : decode cX18_parts 31 = .ok (.goto 4, 3) := by decide +kernel
theorem dX18_parts_34 : decode cX18_parts 34 = .ok (.iconst 2, 1) := by decide +kernel
theorem dX18_parts_35 : decode cX18_parts 35 = .ok (.ireturn, 1) := by decide +kernel
set_option maxRecDepth 20000 in
theorem ggX18_isTerm_X18_in : GoodIn wsX18_isTerm wsX18_in := goodIn_r _ [5] (by decide +kernel) (by decide +kernel)
set_option maxRecDepth 20000 in
theorem gX18_isTerm_X18_in : GoodIn wsX18_isTerm (va_wsS RX18 145 yX18_in wsX18_in) := goodIn_app (goodIn_of _ (by decide +kernel)) ggX18_isTerm_X18_in
theorem dX18_isTerm_0 : decode cX18_isTerm 0 = .ok (.iload_n 1, 1) := by decide +kernel
theorem dX18_isTerm_1 : decode cX18_isTerm 1 = .ok (.iconst 0, 1) := by decide +kernel
theorem dX18_isTerm_2 : decode cX18_isTerm 2 = .ok (.aload_n 0, 1) := by decide +kernel
theorem dX18_isTerm_3 : decode cX18_isTerm 3 = .ok (.getfield 152, 3) := by decide +kernel
theorem dX18_isTerm_6 : decode cX18_isTerm 6 = .ok (.iconst 1, 1) := by decide +kernel
theorem dX18_isTerm_7 : decode cX18_isTerm 7 = .ok (.isub, 1) := by decide +kernel
theorem dX18_isTerm_8 : decode cX18_isTerm 8 = .ok (.invokestatic 145, 3) := by decide +kernel
theorem dX18_isTerm_11 : decode cX18_isTerm 11 = .ok (.ireturn, 1) := by decide +kernel
theorem dX18_typeOfTerm_0 : decode cX18_typeOfTerm 0 = .ok (.aload_n 0, 1) := by decide +kernel
theorem dX18_typeOfTerm_1 : decode cX18_typeOfTerm 1 = .ok (.getfield 7, 3) := by decide +kernel
theorem dX18_typeOfTerm_4 : decode cX18_typeOfTerm 4 = .ok (.aload_n 0, 1) := by decide +kernel
theorem dX18_typeOfTerm_5 : decode cX18_typeOfTerm 5 = .ok (.getfield 16, 3) := by decide +kernel
theorem dX18_typeOfTerm_8 : decode cX18_typeOfTerm 8 = .ok (.iload_n 1, 1) := by decide +kernel
theorem dX18_typeOfTerm_9 : decode cX18_typeOfTerm 9 = .ok (.iaload, 1) := by decide +kernel
theorem dX18_typeOfTerm_10 : decode cX18_typeOfTerm 10 = .ok (.iaload, 1) := by decide +kernel
theorem dX18_typeOfTerm_11 : decode cX18_typeOfTerm 11 = .ok (.ireturn, 1) := by decide +kernel
set_option maxRecDepth 20000 in
theorem ggX18_term_X18_in : GoodIn wsX18_term wsX18_in := goodIn_r _ [7] (by decide +kernel) (by decide +kernel)
set_option maxRecDepth 20000 in
theorem gX18_term_X18_in : GoodIn wsX18_term (va_wsS RX18 145 yX18_in wsX18_in) := goodIn_app (goodIn_of _ (by decide +kernel)) ggX18_term_X18_in
set_option maxRecDepth 20000 in
theorem ggX18_term_X18_parts : GoodIn wsX18_term wsX18_parts := goodIn_ca (goodIn_r _ [11, 3, 33, 34, 35, 36, 37, 38, 39, 40, 41, 42, 43, 44, 45, 46, 47, 48, 49, 50, 51, 52, 53, 54, 55, 56, 57, 58, 59, 60, 61, 62, 63, 64, 65, 66, 67, 68, 69, 70, 71, 72, 73, 74, 75, 76, 77, 78, 79, 80, 81, 82, 83, 84, 85, 86, 87, 88, 89, 90, 91, 92, 93, 94, 95, 96, 97, 98, 99, 100, 101, 102] (by decide +kernel) (by decide +kernel)) (goodIn_sub (fun _ h => List.mem_cons_of_mem _ (List.mem_append_right _ h)) (by decide +kernel))
set_option maxRecDepth 20000 in
theorem gX18_term_X18_parts : GoodIn wsX18_term (wsV RX18 155 RX18 yX18_parts wsX18_parts) := goodIn_app (goodIn_of _ (by decide +kernel)) ggX18_term_X18_parts
set_option maxRecDepth 20000 in
theorem ggX18_term_X18_isTerm : GoodIn wsX18_term wsX18_isTerm := goodIn_r _ [15, 16, 4, 5, 6, 7, 33, 34, 35, 36, 37, 38, 39, 40, 41, 42, 43, 44, 45, 46, 47, 48, 49, 50, 51, 52, 53, 54, 55, 56, 57, 58, 59, 60, 61, 62, 63, 64, 65, 66, 67, 68, 69, 70, 71, 72, 73, 74, 75, 76, 77, 78, 79, 80, 81, 82, 83, 84, 85, 86, 87, 88, 89, 90, 91, 92, 93, 94, 95, 96, 97, 98, 99, 100, 101, 102] (by decide +kernel) (by decide +kernel)
set_option maxRecDepth 20000 in
theorem gX18_term_X18_isTerm : GoodIn wsX18_term (wsV RX18 158 RX18 yX18_isTerm wsX18_isTerm) := goodIn_app (goodIn_of _ (by decide +kernel)) ggX18_term_X18_isTerm
set_option maxRecDepth 20000 in
theorem ggX18_term_X18_fails : GoodIn wsX18_term wsX18_fails := goodIn_r _ [20, 1, 33, 34, 35, 36, 37, 38, 39, 40, 41, 42, 43, 44, 45, 46, 47, 48, 49, 50, 51, 52, 53, 54, 55, 56, 57, 58, 59, 60, 61, 62, 63, 64, 65, 66, 67, 68, 69, 70, 71, 72, 73, 74, 75, 76, 77, 78, 79, 80, 81, 82, 83, 84, 85, 86, 87, 88, 89, 90, 91, 92, 93, 94, 95, 96, 97, 98, 99, 100, 101, 102] (by decide +kernel) (by decide +kernel)
set_option maxRecDepth 20000 in
theorem gX18_term_X18_fails : GoodIn wsX18_term (wsV RX18 141 RX18 yX18_fails wsX18_fails) := goodIn_app (goodIn_of _ (by decide +kernel)) ggX18_term_X18_fails
set_option maxRecDepth 20000 in
theorem ggX18_term_X18_typeOfTerm : GoodIn wsX18_term wsX18_typeOfTerm := goodIn_ca (goodIn_r _ [24, 25, 26, 33, 34, 35, 36, 37, 38, 39, 40, 41, 42, 43, 44, 45, 46, 47, 48, 49, 50, 51, 52, 53, 54, 55, 56, 57, 58, 59, 60, 61, 62, 63, 64, 65, 66, 67, 68, 69, 70, 71, 72, 73, 74, 75, 76, 77, 78, 79, 80, 81, 82, 83, 84, 85, 86, 87, 88, 89, 90, 91, 92, 93, 94, 95, 96, 97, 98, 99, 100, 101, 102] (by decide +kernel) (by decide +kernel)) (goodIn_sub (fun _ h => List.mem_cons_of_mem _ (List.mem_append_right _ h)) (by decide +kernel))
set_option maxRecDepth 20000 in
theorem gX18_term_X18_typeOfTerm : GoodIn wsX18_term (wsV RX18 162 RX18 yX18_typeOfTerm wsX18_typeOfTerm) := goodIn_app (goodIn_of _ (by decide +kernel)) ggX18_term_X18_typeOfTerm
theorem dX18_term_0 : decode cX18_term 0 = .ok (.aload_n 0, 1) := by decide +kernel
theorem dX18_term_1 : decode cX18_term 1 = .ok (.iconst 0, 1) := by decide +kernel
theorem dX18_term_2 : decode cX18_term 2 = .ok (.putfield 130, 3) := by decide +kernel
theorem dX18_term_5 : decode cX18_term 5 = .ok (.iload_n 1, 1) := by decide +kernel
theorem dX18_term_6 : decode cX18_term 6 = .ok (.iconst 0, 1) := by decide +kernel
theorem dX18_term_7 : decode cX18_term 7 = .ok (.aload_n 0, 1) := by decide +kernel
theorem dX18_term_8 : decode cX18_term 8 = .ok (.getfield 149, 3) := by decide +kernel
theorem dX18_term_11 : decode cX18_term 11 = .ok (.iconst 1, 1) := by decide +kernel
theorem dX18_term_12 : decode cX18_term 12 = .ok (.isub, 1) := by decide +kernel
theorem dX18_term_13 : decode cX18_term 13 = .ok (.invokestatic 145, 3) := by decide +kernel
theorem dX18_term_16 : decode cX18_term 16 = .ok (.ifCond .eq 36, 3) := by decide +kernel
theorem dX18_term_19 : decode cX18_term 19 = .ok (.aload_n 0, 1) := by decide +kernel
theorem dX18_term_20 : decode cX18_term 20 = .ok (.iload_n 1, 1) := by decide +kernel
theorem dX18_term_21 : decode cX18_term 21 = .ok (.invokevirtual 155, 3) := by decide +kernel
theorem dX18_term_24 : decode cX18_term 24 = .ok (.ifCond .le 11, 3) := by decide +kernel
theorem dX18_term_27 : decode cX18_term 27 = .ok (.aload_n 0, 1) := by decide +kernel
theorem dX18_term_28 : decode cX18_term 28 = .ok (.iload_n 2, 1) := by decide +kernel
theorem dX18_term_29 : decode cX18_term 29 = .ok (.invokevirtual 158, 3) := by decide +kernel
theorem dX18_term_32 : decode cX18_term 32 = .ok (.ifCond .eq 20, 3) := by decide +kernel
theorem dX18_term_35 : decode cX18_term 35 = .ok (.aload_n 0, 1) := by decide +kernel
theorem dX18_term_36 : decode cX18_term 36 = .ok (.iload_n 1, 1) := by decide +kernel
theorem dX18_term_37 : decode cX18_term 37 = .ok (.invokevirtual 155, 3) := by decide +kernel
theorem dX18_term_40 : decode cX18_term 40 = .ok (.iconst 1, 1) := by decide +kernel
theorem dX18_term_41 : decode cX18_term 41 = .ok (.if_icmp .le 17, 3) := by decide +kernel
theorem dX18_term_44 : decode cX18_term 44 = .ok (.aload_n 0, 1) := by decide +kernel
theorem dX18_term_45 : decode cX18_term 45 = .ok (.iload_n 3, 1) := by decide +kernel
theorem dX18_term_46 : decode cX18_term 46 = .ok (.invokevirtual 158, 3) := by decide +kernel
theorem dX18_term_49 : decode cX18_term 49 = .ok (.ifCond .ne 9, 3) := by decide +kernel
theorem dX18_term_52 : decode cX18_term 52 = .ok (.aload_n 0, 1) := by decide +kernel
theorem dX18_term_53 : decode cX18_term 53 = .ok (.iconst 1, 1) := by decide +kernel
theorem dX18_term_54 : decode cX18_term 54 = .ok (.invokevirtual 141, 3) := by decide +kernel
theorem dX18_term_57 : decode cX18_term 57 = .ok (.ireturn, 1) := by decide +kernel
theorem dX18_term_58 : decode cX18_term 58 = .ok (.aload_n 0, 1) := by decide +kernel
theorem dX18_term_59 : decode cX18_term 59 = .ok (.iload_n 1, 1) := by decide +kernel
theorem dX18_term_60 : decode cX18_term 60 = .ok (.invokevirtual 155, 3) := by decide +kernel
theorem dX18_term_63 : decode cX18_term 63 = .ok (.ifCond .le 27, 3) := by decide +kernel
theorem dX18_term_66 : decode cX18_term 66 = .ok (.aload_n 0, 1) := by decide +kernel
theorem dX18_term_67 : decode cX18_term 67 = .ok (.iload_n 2, 1) := by decide +kernel
theorem dX18_term_68 : decode cX18_term 68 = .ok (.invokevirtual 162, 3) := by decide +kernel
theorem dX18_term_71 : decode cX18_term 71 = .ok (.aload_n 0, 1) := by decide +kernel
theorem dX18_term_72 : decode cX18_term 72 = .ok (.getfield 13, 3) := by decide +kernel
theorem dX18_term_75 : decode cX18_term 75 = .ok (.iconst 2, 1) := by decide +kernel
theorem dX18_term_76 : decode cX18_term 76 = .ok (.iload_n 1, 1) := by decide +kernel
theorem dX18_term_77 : decode cX18_term 77 = .ok (.imul, 1) := by decide +kernel
theorem dX18_term_78 : decode cX18_term 78 = .ok (.iaload, 1) := by decide +kernel
theorem dX18_term_79 : decode cX18_term 79 = .ok (.if_icmp .ne 7, 3) := by decide +kernel
theorem dX18_term_82 : decode cX18_term 82 = .ok (.iconst 1, 1) := by decide +kernel
theorem dX18_term_83 : decode cX18_term 83 = .ok (.goto 16, 3) := by decide +kernel
theorem dX18_term_86 : decode cX18_term 86 = .ok (.iconst 0, 1) := by decide +kernel
theorem dX18_term_87 : decode cX18_term 87 = .ok (.goto 12, 3) := by decide +kernel
theorem dX18_term_90 : decode cX18_term 90 = .ok (.iload_n 2, 1) := by decide +kernel
theorem dX18_term_91 : decode cX18_term 91 = .ok (.ifCond .ne 7, 3) := by decide +kernel
theorem dX18_term_94 : decode cX18_term 94 = .ok (.iconst 1, 1) := by decide +kernel
theorem dX18_term_95 : decode cX18_term 95 = .ok (.goto 4, 3) := by decide +kernel
theorem dX18_term_98 : decode cX18_term 98 = .ok (.iconst 0, 1) := by decide +kernel
theorem dX18_term_99 : decode cX18_term 99 = .ok (.istore 4, 2) := by decide +kernel
theorem dX18_term_101 : decode cX18_term 101 = .ok (.aload_n 0, 1) := by decide +kernel
theorem dX18_term_102 : decode cX18_term 102 = .ok (.iload_n 1, 1) := by decide +kernel
theorem dX18_term_103 : decode cX18_term 103 = .ok (.invokevirtual 155, 3) := by decide +kernel
theorem dX18_term_106 : decode cX18_term 106 = .ok (.iconst 1, 1) := by decide +kernel
theorem dX18_term_107 : decode cX18_term 107 = .ok (.if_icmp .le 29, 3) := by decide +kernel
theorem dX18_term_110 : decode cX18_term 110 = .ok (.aload_n 0, 1) := by decide +kernel
theorem dX18_term_111 : decode cX18_term 111 = .ok (.iload_n 3, 1) := by decide +kernel
theorem dX18_term_112 : decode cX18_term 112 = .ok (.invokevirtual 162, 3) := by decide +kernel
theorem dX18_term_115 : decode cX18_term 115 = .ok (.aload_n 0, 1) := by decide +kernel
theorem dX18_term_116 : decode cX18_term 116 = .ok (.getfield 13, 3) := by decide +kernel
theorem dX18_term_119 : decode cX18_term 119 = .ok (.iconst 2, 1) := by decide +kernel
theorem dX18_term_120 : decode cX18_term 120 = .ok (.iload_n 1, 1) := by decide +kernel
theorem dX18_term_121 : decode cX18_term 121 = .ok (.imul, 1) := by decide +kernel
theorem dX18_term_122 : decode cX18_term 122 = .ok (.iconst 1, 1) := by decide +kernel
theorem dX18_term_123 : decode cX18_term 123 = .ok (.iadd, 1) := by decide +kernel
theorem dX18_term_124 : decode cX18_term 124 = .ok (.iaload, 1) := by decide +kernel
theorem dX18_term_125 : decode cX18_term 125 = .ok (.if_icmp .ne 7, 3) := by decide +kernel
theorem dX18_term_128 : decode cX18_term 128 = .ok (.iconst 1, 1) := by decide +kernel
theorem dX18_term_129 : decode cX18_term 129 = .ok (.goto 16, 3) := by decide +kernel
theorem dX18_term_132 : decode cX18_term 132 = .ok (.iconst 0, 1) := by decide +kernel
theorem dX18_term_133 : decode cX18_term 133 = .ok (.goto 12, 3) := by decide +kernel
theorem dX18_term_136 : decode cX18_term 136 = .ok (.iload_n 3, 1) := by decide +kernel
theorem dX18_term_137 : decode cX18_term 137 = .ok (.ifCond .ne 7, 3) := by decide +kernel
theorem dX18_term_140 : decode cX18_term 140 = .ok (.iconst 1, 1) := by decide +kernel
theorem dX18_term_141 : decode cX18_term 141 = .ok (.goto 4, 3) := by decide +kernel
theorem dX18_term_144 : decode cX18_term 144 = .ok (.iconst 0, 1) := by decide +kernel
theorem dX18_term_145 : decode cX18_term 145 = .ok (.istore 5, 2) := by decide +kernel
theorem dX18_term_147 : decode cX18_term 147 = .ok (.iload 4, 2) := by decide +kernel
theorem dX18_term_149 : decode cX18_term 149 = .ok (.ifCond .eq 8, 3) := by decide +kernel
theorem dX18_term_152 : decode cX18_term 152 = .ok (.iload 5, 2) := by decide +kernel
theorem dX18_term_154 : decode cX18_term 154 = .ok (.ifCond .ne 9, 3) := by decide +kernel
theorem dX18_term_157 : decode cX18_term 157 = .ok (.aload_n 0, 1) := by decide +kernel
theorem dX18_term_158 : decode cX18_term 158 = .ok (.iconst 2, 1) := by decide +kernel
theorem dX18_term_159 : decode cX18_term 159 = .ok (.invokevirtual 141, 3) := by decide +kernel
theorem dX18_term_162 : decode cX18_term 162 = .ok (.ireturn, 1) := by decide +kernel
theorem dX18_term_163 : decode cX18_term 163 = .ok (.aload_n 0, 1) := by decide +kernel
theorem dX18_term_164 : decode cX18_term 164 = .ok (.iload_n 1, 1) := by decide +kernel
theorem dX18_term_165 : decode cX18_term 165 = .ok (.iload_n 2, 1) := by decide +kernel
theorem dX18_term_166 : decode cX18_term 166 = .ok (.iload_n 3, 1) := by decide +kernel
theorem dX18_term_167 : decode cX18_term 167 = .ok (.invokevirtual 165, 3) := by decide +kernel
theorem dX18_term_170 : decode cX18_term 170 = .ok (.istore 6, 2) := by decide +kernel
theorem dX18_term_172 : decode cX18_term 172 = .ok (.iload 6, 2) := by decide +kernel
theorem dX18_term_174 : decode cX18_term 174 = .ok (.iconst (-1), 1) := by decide +kernel
theorem dX18_term_175 : decode cX18_term 175 = .ok (.if_icmp .ne 11, 3) := by decide +kernel
theorem dX18_term_178 : decode cX18_term 178 = .ok (.aload_n 0, 1) := by decide +kernel
theorem dX18_term_179 : decode cX18_term 179 = .ok (.iconst 3, 1) := by decide +kernel
theorem dX18_term_180 : decode cX18_term 180 = .ok (.invokevirtual 141, 3) := by decide +kernel
theorem dX18_term_183 : decode cX18_term 183 = .ok (.goto 5, 3) := by decide +kernel
theorem dX18_term_186 : decode cX18_term 186 = .ok (.iload 6, 2) := by decide +kernel
theorem dX18_term_188 : decode cX18_term 188 = .ok (.ireturn, 1) := by decide +kernel
set_option maxRecDepth 20000 in
theorem ggX18_constructorOf_X18_isTerm : GoodIn wsX18_constructorOf wsX18_isTerm := goodIn_r _ [7, 8, 9, 10, 6, 11, 16, 17, 18, 19, 20, 21, 22, 23, 24, 25, 26, 27, 28, 29, 30, 31, 32, 33, 34, 35, 36, 37, 38, 39, 40, 41, 42, 43, 44, 45, 46, 47, 48, 49, 50, 51, 52, 53, 54, 55, 56, 57, 58, 59, 60, 61, 62, 63, 64, 65, 66, 67, 68, 69, 70, 71, 72, 73, 74, 75, 76, 77, 78, 79, 80, 81, 82, 83, 84, 85] (by decide +kernel) (by decide +kernel)
set_option maxRecDepth 20000 in
theorem gX18_constructorOf_X18_isTerm : GoodIn wsX18_constructorOf (wsV RX18 158 RX18 yX18_isTerm wsX18_isTerm) := goodIn_app (goodIn_of _ (by decide +kernel)) ggX18_constructorOf_X18_isTerm
set_option maxRecDepth 20000 in
theorem ggX18_constructorOf_X18_fails : GoodIn wsX18_constructorOf wsX18_fails := goodIn_r _ [15, 1, 16, 17, 18, 19, 20, 21, 22, 23, 24, 25, 26, 27, 28, 29, 30, 31, 32, 33, 34, 35, 36, 37, 38, 39, 40, 41, 42, 43, 44, 45, 46, 47, 48, 49, 50, 51, 52, 53, 54, 55, 56, 57, 58, 59, 60, 61, 62, 63, 64, 65, 66, 67, 68, 69, 70, 71, 72, 73, 74, 75, 76, 77, 78, 79, 80, 81, 82, 83, 84, 85] (by decide +kernel) (by decide +kernel)
set_option maxRecDepth 20000 in
theorem gX18_constructorOf_X18_fails : GoodIn wsX18_constructorOf (wsV RX18 141 RX18 yX18_fails wsX18_fails) := goodIn_app (goodIn_of _ (by decide +kernel)) ggX18_constructorOf_X18_fails
theorem dX18_constructorOf_0 : decode cX18_constructorOf 0 = .ok (.aload_n 0, 1) := by decide +kernel
theorem dX18_constructorOf_1 : decode cX18_constructorOf 1 = .ok (.iconst 0, 1) := by decide +kernel
theorem dX18_constructorOf_2 : decode cX18_constructorOf 2 = .ok (.putfield 130, 3) := by decide +kernel
theorem dX18_constructorOf_5 : decode cX18_constructorOf 5 = .ok (.aload_n 0, 1) := by decide +kernel
theorem dX18_constructorOf_6 : decode cX18_constructorOf 6 = .ok (.iload_n 1, 1) := by decide +kernel
theorem dX18_constructorOf_7 : decode cX18_constructorOf 7 = .ok (.invokevirtual 158, 3) := by decide +kernel
theorem dX18_constructorOf_10 : decode cX18_constructorOf 10 = .ok (.ifCond .eq 12, 3) := by decide +kernel
theorem dX18_constructorOf_13 : decode cX18_constructorOf 13 = .ok (.aload_n 0, 1) := by decide +kernel
theorem dX18_constructorOf_14 : decode cX18_constructorOf 14 = .ok (.getfield 16, 3) := by decide +kernel
theorem dX18_constructorOf_17 : decode cX18_constructorOf 17 = .ok (.iload_n 1, 1) := by decide +kernel
theorem dX18_constructorOf_18 : decode cX18_constructorOf 18 = .ok (.iaload, 1) := by decide +kernel
theorem dX18_constructorOf_19 : decode cX18_constructorOf 19 = .ok (.goto 8, 3) := by decide +kernel
theorem dX18_constructorOf_22 : decode cX18_constructorOf 22 = .ok (.aload_n 0, 1) := by decide +kernel
theorem dX18_constructorOf_23 : decode cX18_constructorOf 23 = .ok (.iconst 1, 1) := by decide +kernel
theorem dX18_constructorOf_24 : decode cX18_constructorOf 24 = .ok (.invokevirtual 141, 3) := by decide +kernel
theorem dX18_constructorOf_27 : decode cX18_constructorOf 27 = .ok (.ireturn, 1) := by decide +kernel
set_option maxRecDepth 20000 in
theorem ggX18_partOf_X18_isTerm : GoodIn wsX18_partOf wsX18_isTerm := goodIn_r _ [8, 9, 10, 11, 7, 12, 22, 23, 24, 25, 26, 27, 28, 29, 30, 31, 32, 33, 34, 35, 36, 37, 38, 39, 40, 41, 42, 43, 44, 45, 46, 47, 48, 49, 50, 51, 52, 53, 54, 55, 56, 57, 58, 59, 60, 61, 62, 63, 64, 65, 66, 67, 68, 69, 70, 71, 72, 73, 74, 75, 76, 77, 78, 79, 80, 81, 82, 83, 84, 85, 86, 87, 88, 89, 90, 91] (by decide +kernel) (by decide +kernel)
set_option maxRecDepth 20000 in
theorem gX18_partOf_X18_isTerm : GoodIn wsX18_partOf (wsV RX18 158 RX18 yX18_isTerm wsX18_isTerm) := goodIn_app (goodIn_of _ (by decide +kernel)) ggX18_partOf_X18_isTerm
set_option maxRecDepth 20000 in
theorem ggX18_partOf_X18_fails : GoodIn wsX18_partOf wsX18_fails := goodIn_r _ [16, 1, 22, 23, 24, 25, 26, 27, 28, 29, 30, 31, 32, 33, 34, 35, 36, 37, 38, 39, 40, 41, 42, 43, 44, 45, 46, 47, 48, 49, 50, 51, 52, 53, 54, 55, 56, 57, 58, 59, 60, 61, 62, 63, 64, 65, 66, 67, 68, 69, 70, 71, 72, 73, 74, 75, 76, 77, 78, 79, 80, 81, 82, 83, 84, 85, 86, 87, 88, 89, 90, 91] (by decide +kernel) (by decide +kernel)
set_option maxRecDepth 20000 in
theorem gX18_partOf_X18_fails : GoodIn wsX18_partOf (wsV RX18 141 RX18 yX18_fails wsX18_fails) := goodIn_app (goodIn_of _ (by decide +kernel)) ggX18_partOf_X18_fails
set_option maxRecDepth 20000 in
theorem ggX18_partOf_X18_parts : GoodIn wsX18_partOf wsX18_parts := goodIn_ca (goodIn_r _ [20, 21, 22, 23, 24, 25, 26, 27, 28, 29, 30, 31, 32, 33, 34, 35, 36, 37, 38, 39, 40, 41, 42, 43, 44, 45, 46, 47, 48, 49, 50, 51, 52, 53, 54, 55, 56, 57, 58, 59, 60, 61, 62, 63, 64, 65, 66, 67, 68, 69, 70, 71, 72, 73, 74, 75, 76, 77, 78, 79, 80, 81, 82, 83, 84, 85, 86, 87, 88, 89, 90, 91] (by decide +kernel) (by decide +kernel)) (goodIn_sub (fun _ h => List.mem_cons_of_mem _ (List.mem_append_right _ h)) (by decide +kernel))
set_option maxRecDepth 20000 in
theorem gX18_partOf_X18_parts : GoodIn wsX18_partOf (wsV RX18 155 RX18 yX18_parts wsX18_parts) := goodIn_app (goodIn_of _ (by decide +kernel)) ggX18_partOf_X18_parts
set_option maxRecDepth 20000 in
theorem ggX18_partOf_X18_in : GoodIn wsX18_partOf wsX18_in := goodIn_r _ [12] (by decide +kernel) (by decide +kernel)
set_option maxRecDepth 20000 in
theorem gX18_partOf_X18_in : GoodIn wsX18_partOf (va_wsS RX18 145 yX18_in wsX18_in) := goodIn_app (goodIn_of _ (by decide +kernel)) ggX18_partOf_X18_in
theorem dX18_partOf_0 : decode cX18_partOf 0 = .ok (.aload_n 0, 1) := by decide +kernel
theorem dX18_partOf_1 : decode cX18_partOf 1 = .ok (.iconst 0, 1) := by decide +kernel
theorem dX18_partOf_2 : decode cX18_partOf 2 = .ok (.putfield 130, 3) := by decide +kernel
theorem dX18_partOf_5 : decode cX18_partOf 5 = .ok (.aload_n 0, 1) := by decide +kernel
theorem dX18_partOf_6 : decode cX18_partOf 6 = .ok (.iload_n 1, 1) := by decide +kernel
theorem dX18_partOf_7 : decode cX18_partOf 7 = .ok (.invokevirtual 158, 3) := by decide +kernel
theorem dX18_partOf_10 : decode cX18_partOf 10 = .ok (.ifCond .ne 9, 3) := by decide +kernel
theorem dX18_partOf_13 : decode cX18_partOf 13 = .ok (.aload_n 0, 1) := by decide +kernel
theorem dX18_partOf_14 : decode cX18_partOf 14 = .ok (.iconst 1, 1) := by decide +kernel
theorem dX18_partOf_15 : decode cX18_partOf 15 = .ok (.invokevirtual 141, 3) := by decide +kernel
theorem dX18_partOf_18 : decode cX18_partOf 18 = .ok (.ireturn, 1) := by decide +kernel
theorem dX18_partOf_19 : decode cX18_partOf 19 = .ok (.iload_n 2, 1) := by decide +kernel
theorem dX18_partOf_20 : decode cX18_partOf 20 = .ok (.iconst 0, 1) := by decide +kernel
theorem dX18_partOf_21 : decode cX18_partOf 21 = .ok (.aload_n 0, 1) := by decide +kernel
theorem dX18_partOf_22 : decode cX18_partOf 22 = .ok (.aload_n 0, 1) := by decide +kernel
theorem dX18_partOf_23 : decode cX18_partOf 23 = .ok (.getfield 16, 3) := by decide +kernel
theorem dX18_partOf_26 : decode cX18_partOf 26 = .ok (.iload_n 1, 1) := by decide +kernel
theorem dX18_partOf_27 : decode cX18_partOf 27 = .ok (.iaload, 1) := by decide +kernel
theorem dX18_partOf_28 : decode cX18_partOf 28 = .ok (.invokevirtual 155, 3) := by decide +kernel
theorem dX18_partOf_31 : decode cX18_partOf 31 = .ok (.iconst 1, 1) := by decide +kernel
theorem dX18_partOf_32 : decode cX18_partOf 32 = .ok (.isub, 1) := by decide +kernel
theorem dX18_partOf_33 : decode cX18_partOf 33 = .ok (.invokestatic 145, 3) := by decide +kernel
theorem dX18_partOf_36 : decode cX18_partOf 36 = .ok (.ifCond .eq 16, 3) := by decide +kernel
theorem dX18_partOf_39 : decode cX18_partOf 39 = .ok (.aload_n 0, 1) := by decide +kernel
theorem dX18_partOf_40 : decode cX18_partOf 40 = .ok (.getfield 19, 3) := by decide +kernel
theorem dX18_partOf_43 : decode cX18_partOf 43 = .ok (.iconst 2, 1) := by decide +kernel
theorem dX18_partOf_44 : decode cX18_partOf 44 = .ok (.iload_n 1, 1) := by decide +kernel
theorem dX18_partOf_45 : decode cX18_partOf 45 = .ok (.imul, 1) := by decide +kernel
theorem dX18_partOf_46 : decode cX18_partOf 46 = .ok (.iload_n 2, 1) := by decide +kernel
theorem dX18_partOf_47 : decode cX18_partOf 47 = .ok (.iadd, 1) := by decide +kernel
theorem dX18_partOf_48 : decode cX18_partOf 48 = .ok (.iaload, 1) := by decide +kernel
theorem dX18_partOf_49 : decode cX18_partOf 49 = .ok (.goto 8, 3) := by decide +kernel
theorem dX18_partOf_52 : decode cX18_partOf 52 = .ok (.aload_n 0, 1) := by decide +kernel
theorem dX18_partOf_53 : decode cX18_partOf 53 = .ok (.iconst 2, 1) := by decide +kernel
theorem dX18_partOf_54 : decode cX18_partOf 54 = .ok (.invokevirtual 141, 3) := by decide +kernel
theorem dX18_partOf_57 : decode cX18_partOf 57 = .ok (.ireturn, 1) := by decide +kernel
set_option maxRecDepth 20000 in
theorem ggX18_sizeOf_X18_isTerm : GoodIn wsX18_sizeOf wsX18_isTerm := goodIn_r _ [7, 8, 9, 10, 6, 11, 12, 13, 14, 15, 16, 17, 18, 19, 20, 21, 22, 23, 24, 25, 26, 27, 28, 29, 30, 31, 32, 33, 34, 35, 36, 37, 38, 39, 40, 41, 42, 43, 44, 45, 46, 47, 48, 49, 50, 51, 52, 53, 54, 55, 56, 57, 58, 59, 60, 61, 62, 63, 64, 65, 66, 67, 68, 69, 70, 71, 72, 73, 74, 75, 76, 77, 78, 79, 80, 81] (by decide +kernel) (by decide +kernel)
set_option maxRecDepth 20000 in
theorem gX18_sizeOf_X18_isTerm : GoodIn wsX18_sizeOf (wsV RX18 158 RX18 yX18_isTerm wsX18_isTerm) := goodIn_app (goodIn_of _ (by decide +kernel)) ggX18_sizeOf_X18_isTerm
theorem dX18_sizeOf_0 : decode cX18_sizeOf 0 = .ok (.aload_n 0, 1) := by decide +kernel
theorem dX18_sizeOf_1 : decode cX18_sizeOf 1 = .ok (.aload_n 0, 1) := by decide +kernel
theorem dX18_sizeOf_2 : decode cX18_sizeOf 2 = .ok (.iload_n 1, 1) := by decide +kernel
theorem dX18_sizeOf_3 : decode cX18_sizeOf 3 = .ok (.invokevirtual 158, 3) := by decide +kernel
theorem dX18_sizeOf_6 : decode cX18_sizeOf 6 = .ok (.ifCond .eq 7, 3) := by decide +kernel
theorem dX18_sizeOf_9 : decode cX18_sizeOf 9 = .ok (.iconst 0, 1) := by decide +kernel
theorem dX18_sizeOf_10 : decode cX18_sizeOf 10 = .ok (.goto 4, 3) := by decide +kernel
theorem dX18_sizeOf_13 : decode cX18_sizeOf 13 = .ok (.iconst 1, 1) := by decide +kernel
theorem dX18_sizeOf_14 : decode cX18_sizeOf 14 = .ok (.putfield 130, 3) := by decide +kernel
theorem dX18_sizeOf_17 : decode cX18_sizeOf 17 = .ok (.aload_n 0, 1) := by decide +kernel
theorem dX18_sizeOf_18 : decode cX18_sizeOf 18 = .ok (.getfield 130, 3) := by decide +kernel
theorem dX18_sizeOf_21 : decode cX18_sizeOf 21 = .ok (.ifCond .le 7, 3) := by decide +kernel
theorem dX18_sizeOf_24 : decode cX18_sizeOf 24 = .ok (.lconst 0, 1) := by decide +kernel
theorem dX18_sizeOf_25 : decode cX18_sizeOf 25 = .ok (.goto 9, 3) := by decide +kernel
theorem dX18_sizeOf_28 : decode cX18_sizeOf 28 = .ok (.aload_n 0, 1) := by decide +kernel
theorem dX18_sizeOf_29 : decode cX18_sizeOf 29 = .ok (.getfield 22, 3) := by decide +kernel
theorem dX18_sizeOf_32 : decode cX18_sizeOf 32 = .ok (.iload_n 1, 1) := by decide +kernel
theorem dX18_sizeOf_33 : decode cX18_sizeOf 33 = .ok (.laload, 1) := by decide +kernel
theorem dX18_sizeOf_34 : decode cX18_sizeOf 34 = .ok (.lreturn, 1) := by decide +kernel
set_option maxRecDepth 20000 in
theorem ggX18_addPredicate_X18_in : GoodIn wsX18_addPredicate wsX18_in := goodIn_r _ [10] (by decide +kernel) (by decide +kernel)
set_option maxRecDepth 20000 in
theorem gX18_addPredicate_X18_in : GoodIn wsX18_addPredicate (va_wsS RX18 145 yX18_in wsX18_in) := goodIn_app (goodIn_of _ (by decide +kernel)) ggX18_addPredicate_X18_in
set_option maxRecDepth 20000 in
theorem ggX18_addPredicate_X18_fails : GoodIn wsX18_addPredicate wsX18_fails := goodIn_r _ [14, 1, 15, 16, 17, 18, 19, 20, 21, 22, 23, 24, 25, 26, 27, 28, 29, 30, 31, 32, 33, 34, 35, 36, 37, 38, 39, 40, 41, 42, 43, 44, 45, 46, 47, 48, 49, 50, 51, 52, 53, 54, 55, 56, 57, 58, 59, 60, 61, 62, 63, 64, 65, 66, 67, 68, 69, 70, 71, 72, 73, 74, 75, 76, 77, 78, 79, 80, 81, 82, 83, 84] (by decide +kernel) (by decide +kernel)
set_option maxRecDepth 20000 in
theorem gX18_addPredicate_X18_fails : GoodIn wsX18_addPredicate (wsV RX18 141 RX18 yX18_fails wsX18_fails) := goodIn_app (goodIn_of _ (by decide +kernel)) ggX18_addPredicate_X18_fails
theorem dX18_addPredicate_0 : decode cX18_addPredicate 0 = .ok (.aload_n 0, 1) := by decide +kernel
theorem dX18_addPredicate_1 : decode cX18_addPredicate 1 = .ok (.iconst 0, 1) := by decide +kernel
theorem dX18_addPredicate_2 : decode cX18_addPredicate 2 = .ok (.putfield 130, 3) := by decide +kernel
theorem dX18_addPredicate_5 : decode cX18_addPredicate 5 = .ok (.iload_n 1, 1) := by decide +kernel
theorem dX18_addPredicate_6 : decode cX18_addPredicate 6 = .ok (.iconst (-1), 1) := by decide +kernel
theorem dX18_addPredicate_7 : decode cX18_addPredicate 7 = .ok (.aload_n 0, 1) := by decide +kernel
theorem dX18_addPredicate_8 : decode cX18_addPredicate 8 = .ok (.getfield 134, 3) := by decide +kernel
theorem dX18_addPredicate_11 : decode cX18_addPredicate 11 = .ok (.iconst 1, 1) := by decide +kernel
theorem dX18_addPredicate_12 : decode cX18_addPredicate 12 = .ok (.isub, 1) := by decide +kernel
theorem dX18_addPredicate_13 : decode cX18_addPredicate 13 = .ok (.invokestatic 145, 3) := by decide +kernel
theorem dX18_addPredicate_16 : decode cX18_addPredicate 16 = .ok (.ifCond .eq 31, 3) := by decide +kernel
theorem dX18_addPredicate_19 : decode cX18_addPredicate 19 = .ok (.iload_n 2, 1) := by decide +kernel
theorem dX18_addPredicate_20 : decode cX18_addPredicate 20 = .ok (.iconst (-1), 1) := by decide +kernel
theorem dX18_addPredicate_21 : decode cX18_addPredicate 21 = .ok (.aload_n 0, 1) := by decide +kernel
theorem dX18_addPredicate_22 : decode cX18_addPredicate 22 = .ok (.getfield 134, 3) := by decide +kernel
theorem dX18_addPredicate_25 : decode cX18_addPredicate 25 = .ok (.iconst 1, 1) := by decide +kernel
theorem dX18_addPredicate_26 : decode cX18_addPredicate 26 = .ok (.isub, 1) := by decide +kernel
theorem dX18_addPredicate_27 : decode cX18_addPredicate 27 = .ok (.invokestatic 145, 3) := by decide +kernel
theorem dX18_addPredicate_30 : decode cX18_addPredicate 30 = .ok (.ifCond .eq 17, 3) := by decide +kernel
theorem dX18_addPredicate_33 : decode cX18_addPredicate 33 = .ok (.iload_n 3, 1) := by decide +kernel
theorem dX18_addPredicate_34 : decode cX18_addPredicate 34 = .ok (.iconst (-1), 1) := by decide +kernel
theorem dX18_addPredicate_35 : decode cX18_addPredicate 35 = .ok (.aload_n 0, 1) := by decide +kernel
theorem dX18_addPredicate_36 : decode cX18_addPredicate 36 = .ok (.getfield 134, 3) := by decide +kernel
theorem dX18_addPredicate_39 : decode cX18_addPredicate 39 = .ok (.iconst 1, 1) := by decide +kernel
theorem dX18_addPredicate_40 : decode cX18_addPredicate 40 = .ok (.isub, 1) := by decide +kernel
theorem dX18_addPredicate_41 : decode cX18_addPredicate 41 = .ok (.invokestatic 145, 3) := by decide +kernel
theorem dX18_addPredicate_44 : decode cX18_addPredicate 44 = .ok (.ifCond .ne 9, 3) := by decide +kernel
theorem dX18_addPredicate_47 : decode cX18_addPredicate 47 = .ok (.aload_n 0, 1) := by decide +kernel
theorem dX18_addPredicate_48 : decode cX18_addPredicate 48 = .ok (.iconst 1, 1) := by decide +kernel
theorem dX18_addPredicate_49 : decode cX18_addPredicate 49 = .ok (.invokevirtual 141, 3) := by decide +kernel
theorem dX18_addPredicate_52 : decode cX18_addPredicate 52 = .ok (.ireturn, 1) := by decide +kernel
theorem dX18_addPredicate_53 : decode cX18_addPredicate 53 = .ok (.iload_n 1, 1) := by decide +kernel
theorem dX18_addPredicate_54 : decode cX18_addPredicate 54 = .ok (.iconst (-1), 1) := by decide +kernel
theorem dX18_addPredicate_55 : decode cX18_addPredicate 55 = .ok (.if_icmp .ne 8, 3) := by decide +kernel
theorem dX18_addPredicate_58 : decode cX18_addPredicate 58 = .ok (.iload_n 2, 1) := by decide +kernel
theorem dX18_addPredicate_59 : decode cX18_addPredicate 59 = .ok (.iconst (-1), 1) := by decide +kernel
theorem dX18_addPredicate_60 : decode cX18_addPredicate 60 = .ok (.if_icmp .ne 13, 3) := by decide +kernel
theorem dX18_addPredicate_63 : decode cX18_addPredicate 63 = .ok (.iload_n 2, 1) := by decide +kernel
theorem dX18_addPredicate_64 : decode cX18_addPredicate 64 = .ok (.iconst (-1), 1) := by decide +kernel
theorem dX18_addPredicate_65 : decode cX18_addPredicate 65 = .ok (.if_icmp .ne 14, 3) := by decide +kernel
theorem dX18_addPredicate_68 : decode cX18_addPredicate 68 = .ok (.iload_n 3, 1) := by decide +kernel
theorem dX18_addPredicate_69 : decode cX18_addPredicate 69 = .ok (.iconst (-1), 1) := by decide +kernel
theorem dX18_addPredicate_70 : decode cX18_addPredicate 70 = .ok (.if_icmp .eq 9, 3) := by decide +kernel
theorem dX18_addPredicate_73 : decode cX18_addPredicate 73 = .ok (.aload_n 0, 1) := by decide +kernel
theorem dX18_addPredicate_74 : decode cX18_addPredicate 74 = .ok (.iconst 2, 1) := by decide +kernel
theorem dX18_addPredicate_75 : decode cX18_addPredicate 75 = .ok (.invokevirtual 141, 3) := by decide +kernel
theorem dX18_addPredicate_78 : decode cX18_addPredicate 78 = .ok (.ireturn, 1) := by decide +kernel
theorem dX18_addPredicate_79 : decode cX18_addPredicate 79 = .ok (.aload_n 0, 1) := by decide +kernel
theorem dX18_addPredicate_80 : decode cX18_addPredicate 80 = .ok (.getfield 169, 3) := by decide +kernel
theorem dX18_addPredicate_83 : decode cX18_addPredicate 83 = .ok (.iconst 5, 1) := by decide +kernel
theorem dX18_addPredicate_84 : decode cX18_addPredicate 84 = .ok (.if_icmp .eq 10, 3) := by decide +kernel
theorem dX18_addPredicate_87 : decode cX18_addPredicate 87 = .ok (.aload_n 0, 1) := by decide +kernel
theorem dX18_addPredicate_88 : decode cX18_addPredicate 88 = .ok (.getfield 137, 3) := by decide +kernel
theorem dX18_addPredicate_91 : decode cX18_addPredicate 91 = .ok (.ifCond .eq 9, 3) := by decide +kernel
theorem dX18_addPredicate_94 : decode cX18_addPredicate 94 = .ok (.aload_n 0, 1) := by decide +kernel
theorem dX18_addPredicate_95 : decode cX18_addPredicate 95 = .ok (.iconst 3, 1) := by decide +kernel
theorem dX18_addPredicate_96 : decode cX18_addPredicate 96 = .ok (.invokevirtual 141, 3) := by decide +kernel
theorem dX18_addPredicate_99 : decode cX18_addPredicate 99 = .ok (.ireturn, 1) := by decide +kernel
theorem dX18_addPredicate_100 : decode cX18_addPredicate 100 = .ok (.aload_n 0, 1) := by decide +kernel
theorem dX18_addPredicate_101 : decode cX18_addPredicate 101 = .ok (.getfield 29, 3) := by decide +kernel
theorem dX18_addPredicate_104 : decode cX18_addPredicate 104 = .ok (.iconst 3, 1) := by decide +kernel
theorem dX18_addPredicate_105 : decode cX18_addPredicate 105 = .ok (.aload_n 0, 1) := by decide +kernel
theorem dX18_addPredicate_106 : decode cX18_addPredicate 106 = .ok (.getfield 169, 3) := by decide +kernel
theorem dX18_addPredicate_109 : decode cX18_addPredicate 109 = .ok (.imul, 1) := by decide +kernel
theorem dX18_addPredicate_110 : decode cX18_addPredicate 110 = .ok (.iload_n 1, 1) := by decide +kernel
theorem dX18_addPredicate_111 : decode cX18_addPredicate 111 = .ok (.iastore, 1) := by decide +kernel
theorem dX18_addPredicate_112 : decode cX18_addPredicate 112 = .ok (.aload_n 0, 1) := by decide +kernel
theorem dX18_addPredicate_113 : decode cX18_addPredicate 113 = .ok (.getfield 29, 3) := by decide +kernel
theorem dX18_addPredicate_116 : decode cX18_addPredicate 116 = .ok (.iconst 3, 1) := by decide +kernel
theorem dX18_addPredicate_117 : decode cX18_addPredicate 117 = .ok (.aload_n 0, 1) := by decide +kernel
theorem dX18_addPredicate_118 : decode cX18_addPredicate 118 = .ok (.getfield 169, 3) := by decide +kernel
theorem dX18_addPredicate_121 : decode cX18_addPredicate 121 = .ok (.imul, 1) := by decide +kernel
theorem dX18_addPredicate_122 : decode cX18_addPredicate 122 = .ok (.iconst 1, 1) := by decide +kernel
theorem dX18_addPredicate_123 : decode cX18_addPredicate 123 = .ok (.iadd, 1) := by decide +kernel
theorem dX18_addPredicate_124 : decode cX18_addPredicate 124 = .ok (.iload_n 2, 1) := by decide +kernel
theorem dX18_addPredicate_125 : decode cX18_addPredicate 125 = .ok (.iastore, 1) := by decide +kernel
theorem dX18_addPredicate_126 : decode cX18_addPredicate 126 = .ok (.aload_n 0, 1) := by decide +kernel
theorem dX18_addPredicate_127 : decode cX18_addPredicate 127 = .ok (.getfield 29, 3) := by decide +kernel
theorem dX18_addPredicate_130 : decode cX18_addPredicate 130 = .ok (.iconst 3, 1) := by decide +kernel
theorem dX18_addPredicate_131 : decode cX18_addPredicate 131 = .ok (.aload_n 0, 1) := by decide +kernel
theorem dX18_addPredicate_132 : decode cX18_addPredicate 132 = .ok (.getfield 169, 3) := by decide +kernel
theorem dX18_addPredicate_135 : decode cX18_addPredicate 135 = .ok (.imul, 1) := by decide +kernel
theorem dX18_addPredicate_136 : decode cX18_addPredicate 136 = .ok (.iconst 2, 1) := by decide +kernel
theorem dX18_addPredicate_137 : decode cX18_addPredicate 137 = .ok (.iadd, 1) := by decide +kernel
theorem dX18_addPredicate_138 : decode cX18_addPredicate 138 = .ok (.iload_n 3, 1) := by decide +kernel
theorem dX18_addPredicate_139 : decode cX18_addPredicate 139 = .ok (.iastore, 1) := by decide +kernel
theorem dX18_addPredicate_140 : decode cX18_addPredicate 140 = .ok (.aload_n 0, 1) := by decide +kernel
theorem dX18_addPredicate_141 : decode cX18_addPredicate 141 = .ok (.getfield 26, 3) := by decide +kernel
theorem dX18_addPredicate_144 : decode cX18_addPredicate 144 = .ok (.aload_n 0, 1) := by decide +kernel
theorem dX18_addPredicate_145 : decode cX18_addPredicate 145 = .ok (.getfield 169, 3) := by decide +kernel
theorem dX18_addPredicate_148 : decode cX18_addPredicate 148 = .ok (.iload_n 1, 1) := by decide +kernel
theorem dX18_addPredicate_149 : decode cX18_addPredicate 149 = .ok (.iconst (-1), 1) := by decide +kernel
theorem dX18_addPredicate_150 : decode cX18_addPredicate 150 = .ok (.if_icmp .ne 7, 3) := by decide +kernel
theorem dX18_addPredicate_153 : decode cX18_addPredicate 153 = .ok (.iconst 0, 1) := by decide +kernel
theorem dX18_addPredicate_154 : decode cX18_addPredicate 154 = .ok (.goto 22, 3) := by decide +kernel
theorem dX18_addPredicate_157 : decode cX18_addPredicate 157 = .ok (.iload_n 2, 1) := by decide +kernel
theorem dX18_addPredicate_158 : decode cX18_addPredicate 158 = .ok (.iconst (-1), 1) := by decide +kernel
theorem dX18_addPredicate_159 : decode cX18_addPredicate 159 = .ok (.if_icmp .ne 7, 3) := by decide +kernel
theorem dX18_addPredicate_162 : decode cX18_addPredicate 162 = .ok (.iconst 1, 1) := by decide +kernel
theorem dX18_addPredicate_163 : decode cX18_addPredicate 163 = .ok (.goto 13, 3) := by decide +kernel
theorem dX18_addPredicate_166 : decode cX18_addPredicate 166 = .ok (.iload_n 3, 1) := by decide +kernel
theorem dX18_addPredicate_167 : decode cX18_addPredicate 167 = .ok (.iconst (-1), 1) := by decide +kernel
theorem dX18_addPredicate_168 : decode cX18_addPredicate 168 = .ok (.if_icmp .ne 7, 3) := by decide +kernel
theorem dX18_addPredicate_171 : decode cX18_addPredicate 171 = .ok (.iconst 2, 1) := by decide +kernel
theorem dX18_addPredicate_172 : decode cX18_addPredicate 172 = .ok (.goto 4, 3) := by decide +kernel
theorem dX18_addPredicate_175 : decode cX18_addPredicate 175 = .ok (.iconst 3, 1) := by decide +kernel
theorem dX18_addPredicate_176 : decode cX18_addPredicate 176 = .ok (.iastore, 1) := by decide +kernel
theorem dX18_addPredicate_177 : decode cX18_addPredicate 177 = .ok (.aload_n 0, 1) := by decide +kernel
theorem dX18_addPredicate_178 : decode cX18_addPredicate 178 = .ok (.dup, 1) := by decide +kernel
theorem dX18_addPredicate_179 : decode cX18_addPredicate 179 = .ok (.getfield 169, 3) := by decide +kernel
theorem dX18_addPredicate_182 : decode cX18_addPredicate 182 = .ok (.iconst 1, 1) := by decide +kernel
theorem dX18_addPredicate_183 : decode cX18_addPredicate 183 = .ok (.iadd, 1) := by decide +kernel
theorem dX18_addPredicate_184 : decode cX18_addPredicate 184 = .ok (.putfield 169, 3) := by decide +kernel
theorem dX18_addPredicate_187 : decode cX18_addPredicate 187 = .ok (.aload_n 0, 1) := by decide +kernel
theorem dX18_addPredicate_188 : decode cX18_addPredicate 188 = .ok (.getfield 169, 3) := by decide +kernel
theorem dX18_addPredicate_191 : decode cX18_addPredicate 191 = .ok (.iconst 1, 1) := by decide +kernel
theorem dX18_addPredicate_192 : decode cX18_addPredicate 192 = .ok (.isub, 1) := by decide +kernel
theorem dX18_addPredicate_193 : decode cX18_addPredicate 193 = .ok (.ireturn, 1) := by decide +kernel
set_option maxRecDepth 20000 in
theorem ggX18_isPredicate_X18_in : GoodIn wsX18_isPredicate wsX18_in := goodIn_r _ [5] (by decide +kernel) (by decide +kernel)
set_option maxRecDepth 20000 in
theorem gX18_isPredicate_X18_in : GoodIn wsX18_isPredicate (va_wsS RX18 145 yX18_in wsX18_in) := goodIn_app (goodIn_of _ (by decide +kernel)) ggX18_isPredicate_X18_in
theorem dX18_isPredicate_0 : decode cX18_isPredicate 0 = .ok (.iload_n 1, 1) := by decide +kernel
theorem dX18_isPredicate_1 : decode cX18_isPredicate 1 = .ok (.iconst 0, 1) := by decide +kernel
theorem dX18_isPredicate_2 : decode cX18_isPredicate 2 = .ok (.aload_n 0, 1) := by decide +kernel
theorem dX18_isPredicate_3 : decode cX18_isPredicate 3 = .ok (.getfield 169, 3) := by decide +kernel
theorem dX18_isPredicate_6 : decode cX18_isPredicate 6 = .ok (.iconst 1, 1) := by decide +kernel
theorem dX18_isPredicate_7 : decode cX18_isPredicate 7 = .ok (.isub, 1) := by decide +kernel
theorem dX18_isPredicate_8 : decode cX18_isPredicate 8 = .ok (.invokestatic 145, 3) := by decide +kernel
theorem dX18_isPredicate_11 : decode cX18_isPredicate 11 = .ok (.ireturn, 1) := by decide +kernel
set_option maxRecDepth 20000 in
theorem ggX18_addMode_X18_isPredicate : GoodIn wsX18_addMode wsX18_isPredicate := goodIn_r _ [11, 12, 13, 14, 10, 15, 20, 21, 22, 23, 24, 25, 26, 27, 28, 29, 30, 31, 32, 33, 34, 35, 36, 37, 38, 39, 40, 41, 42, 43, 44, 45, 46, 47, 48, 49, 50, 51, 52, 53, 54, 55, 56, 57, 58, 59, 60, 61, 62, 63, 64, 65, 66, 67, 68, 69, 70, 71, 72, 73, 74, 75, 76, 77, 78, 79, 80, 81, 82, 83, 84, 85, 86, 87, 88, 89] (by decide +kernel) (by decide +kernel)
set_option maxRecDepth 20000 in
theorem gX18_addMode_X18_isPredicate : GoodIn wsX18_addMode (wsV RX18 172 RX18 yX18_isPredicate wsX18_isPredicate) := goodIn_app (goodIn_of _ (by decide +kernel)) ggX18_addMode_X18_isPredicate
set_option maxRecDepth 20000 in
theorem ggX18_addMode_X18_fails : GoodIn wsX18_addMode wsX18_fails := goodIn_r _ [19, 1, 20, 21, 22, 23, 24, 25, 26, 27, 28, 29, 30, 31, 32, 33, 34, 35, 36, 37, 38, 39, 40, 41, 42, 43, 44, 45, 46, 47, 48, 49, 50, 51, 52, 53, 54, 55, 56, 57, 58, 59, 60, 61, 62, 63, 64, 65, 66, 67, 68, 69, 70, 71, 72, 73, 74, 75, 76, 77, 78, 79, 80, 81, 82, 83, 84, 85, 86, 87, 88, 89] (by decide +kernel) (by decide +kernel)
set_option maxRecDepth 20000 in
theorem gX18_addMode_X18_fails : GoodIn wsX18_addMode (wsV RX18 141 RX18 yX18_fails wsX18_fails) := goodIn_app (goodIn_of _ (by decide +kernel)) ggX18_addMode_X18_fails
set_option maxRecDepth 20000 in
theorem ggX18_addMode_X18_in : GoodIn wsX18_addMode wsX18_in := goodIn_r _ [15] (by decide +kernel) (by decide +kernel)
set_option maxRecDepth 20000 in
theorem gX18_addMode_X18_in : GoodIn wsX18_addMode (va_wsS RX18 145 yX18_in wsX18_in) := goodIn_app (goodIn_of _ (by decide +kernel)) ggX18_addMode_X18_in
theorem dX18_addMode_0 : decode cX18_addMode 0 = .ok (.aload_n 0, 1) := by decide +kernel
theorem dX18_addMode_1 : decode cX18_addMode 1 = .ok (.iconst 0, 1) := by decide +kernel
theorem dX18_addMode_2 : decode cX18_addMode 2 = .ok (.putfield 130, 3) := by decide +kernel
theorem dX18_addMode_5 : decode cX18_addMode 5 = .ok (.aload_n 0, 1) := by decide +kernel
theorem dX18_addMode_6 : decode cX18_addMode 6 = .ok (.iload_n 1, 1) := by decide +kernel
theorem dX18_addMode_7 : decode cX18_addMode 7 = .ok (.invokevirtual 172, 3) := by decide +kernel
theorem dX18_addMode_10 : decode cX18_addMode 10 = .ok (.ifCond .ne 9, 3) := by decide +kernel
theorem dX18_addMode_13 : decode cX18_addMode 13 = .ok (.aload_n 0, 1) := by decide +kernel
theorem dX18_addMode_14 : decode cX18_addMode 14 = .ok (.iconst 1, 1) := by decide +kernel
theorem dX18_addMode_15 : decode cX18_addMode 15 = .ok (.invokevirtual 141, 3) := by decide +kernel
theorem dX18_addMode_18 : decode cX18_addMode 18 = .ok (.ireturn, 1) := by decide +kernel
theorem dX18_addMode_19 : decode cX18_addMode 19 = .ok (.iload_n 2, 1) := by decide +kernel
theorem dX18_addMode_20 : decode cX18_addMode 20 = .ok (.iconst 0, 1) := by decide +kernel
theorem dX18_addMode_21 : decode cX18_addMode 21 = .ok (.iconst 1, 1) := by decide +kernel
theorem dX18_addMode_22 : decode cX18_addMode 22 = .ok (.aload_n 0, 1) := by decide +kernel
theorem dX18_addMode_23 : decode cX18_addMode 23 = .ok (.getfield 26, 3) := by decide +kernel
theorem dX18_addMode_26 : decode cX18_addMode 26 = .ok (.iload_n 1, 1) := by decide +kernel
theorem dX18_addMode_27 : decode cX18_addMode 27 = .ok (.iaload, 1) := by decide +kernel
theorem dX18_addMode_28 : decode cX18_addMode 28 = .ok (.ishl, 1) := by decide +kernel
theorem dX18_addMode_29 : decode cX18_addMode 29 = .ok (.iconst 1, 1) := by decide +kernel
theorem dX18_addMode_30 : decode cX18_addMode 30 = .ok (.isub, 1) := by decide +kernel
theorem dX18_addMode_31 : decode cX18_addMode 31 = .ok (.invokestatic 145, 3) := by decide +kernel
theorem dX18_addMode_34 : decode cX18_addMode 34 = .ok (.ifCond .eq 27, 3) := by decide +kernel
theorem dX18_addMode_37 : decode cX18_addMode 37 = .ok (.iload_n 3, 1) := by decide +kernel
theorem dX18_addMode_38 : decode cX18_addMode 38 = .ok (.bipush 100, 2) := by decide +kernel
theorem dX18_addMode_40 : decode cX18_addMode 40 = .ok (.if_icmp .eq 27, 3) := by decide +kernel
theorem dX18_addMode_43 : decode cX18_addMode 43 = .ok (.iload_n 3, 1) := by decide +kernel
theorem dX18_addMode_44 : decode cX18_addMode 44 = .ok (.bipush 115, 2) := by decide +kernel
theorem dX18_addMode_46 : decode cX18_addMode 46 = .ok (.if_icmp .eq 21, 3) := by decide +kernel
theorem dX18_addMode_49 : decode cX18_addMode 49 = .ok (.iload_n 3, 1) := by decide +kernel
theorem dX18_addMode_50 : decode cX18_addMode 50 = .ok (.bipush 109, 2) := by decide +kernel
theorem dX18_addMode_52 : decode cX18_addMode 52 = .ok (.if_icmp .eq 15, 3) := by decide +kernel
theorem dX18_addMode_55 : decode cX18_addMode 55 = .ok (.iload_n 3, 1) := by decide +kernel
theorem dX18_addMode_56 : decode cX18_addMode 56 = .ok (.bipush 110, 2) := by decide +kernel
theorem dX18_addMode_58 : decode cX18_addMode 58 = .ok (.if_icmp .eq 9, 3) := by decide +kernel
theorem dX18_addMode_61 : decode cX18_addMode 61 = .ok (.aload_n 0, 1) := by decide +kernel
theorem dX18_addMode_62 : decode cX18_addMode 62 = .ok (.iconst 2, 1) := by decide +kernel
theorem dX18_addMode_63 : decode cX18_addMode 63 = .ok (.invokevirtual 141, 3) := by decide +kernel
theorem dX18_addMode_66 : decode cX18_addMode 66 = .ok (.ireturn, 1) := by decide +kernel
theorem dX18_addMode_67 : decode cX18_addMode 67 = .ok (.aload_n 0, 1) := by decide +kernel
theorem dX18_addMode_68 : decode cX18_addMode 68 = .ok (.getfield 32, 3) := by decide +kernel
theorem dX18_addMode_71 : decode cX18_addMode 71 = .ok (.iload_n 1, 1) := by decide +kernel
theorem dX18_addMode_72 : decode cX18_addMode 72 = .ok (.iaload, 1) := by decide +kernel
theorem dX18_addMode_73 : decode cX18_addMode 73 = .ok (.iconst 2, 1) := by decide +kernel
theorem dX18_addMode_74 : decode cX18_addMode 74 = .ok (.if_icmp .eq 10, 3) := by decide +kernel
theorem dX18_addMode_77 : decode cX18_addMode 77 = .ok (.aload_n 0, 1) := by decide +kernel
theorem dX18_addMode_78 : decode cX18_addMode 78 = .ok (.getfield 137, 3) := by decide +kernel
theorem dX18_addMode_81 : decode cX18_addMode 81 = .ok (.ifCond .eq 9, 3) := by decide +kernel
theorem dX18_addMode_84 : decode cX18_addMode 84 = .ok (.aload_n 0, 1) := by decide +kernel
theorem dX18_addMode_85 : decode cX18_addMode 85 = .ok (.iconst 3, 1) := by decide +kernel
theorem dX18_addMode_86 : decode cX18_addMode 86 = .ok (.invokevirtual 141, 3) := by decide +kernel
theorem dX18_addMode_89 : decode cX18_addMode 89 = .ok (.ireturn, 1) := by decide +kernel
theorem dX18_addMode_90 : decode cX18_addMode 90 = .ok (.aload_n 0, 1) := by decide +kernel
theorem dX18_addMode_91 : decode cX18_addMode 91 = .ok (.getfield 35, 3) := by decide +kernel
theorem dX18_addMode_94 : decode cX18_addMode 94 = .ok (.iconst 2, 1) := by decide +kernel
theorem dX18_addMode_95 : decode cX18_addMode 95 = .ok (.iload_n 1, 1) := by decide +kernel
theorem dX18_addMode_96 : decode cX18_addMode 96 = .ok (.imul, 1) := by decide +kernel
theorem dX18_addMode_97 : decode cX18_addMode 97 = .ok (.aload_n 0, 1) := by decide +kernel
theorem dX18_addMode_98 : decode cX18_addMode 98 = .ok (.getfield 32, 3) := by decide +kernel
theorem dX18_addMode_101 : decode cX18_addMode 101 = .ok (.iload_n 1, 1) := by decide +kernel
theorem dX18_addMode_102 : decode cX18_addMode 102 = .ok (.iaload, 1) := by decide +kernel
theorem dX18_addMode_103 : decode cX18_addMode 103 = .ok (.iadd, 1) := by decide +kernel
theorem dX18_addMode_104 : decode cX18_addMode 104 = .ok (.iload_n 2, 1) := by decide +kernel
theorem dX18_addMode_105 : decode cX18_addMode 105 = .ok (.iastore, 1) := by decide +kernel
theorem dX18_addMode_106 : decode cX18_addMode 106 = .ok (.aload_n 0, 1) := by decide +kernel
theorem dX18_addMode_107 : decode cX18_addMode 107 = .ok (.getfield 38, 3) := by decide +kernel
theorem dX18_addMode_110 : decode cX18_addMode 110 = .ok (.iconst 2, 1) := by decide +kernel
theorem dX18_addMode_111 : decode cX18_addMode 111 = .ok (.iload_n 1, 1) := by decide +kernel
theorem dX18_addMode_112 : decode cX18_addMode 112 = .ok (.imul, 1) := by decide +kernel
theorem dX18_addMode_113 : decode cX18_addMode 113 = .ok (.aload_n 0, 1) := by decide +kernel
theorem dX18_addMode_114 : decode cX18_addMode 114 = .ok (.getfield 32, 3) := by decide +kernel
theorem dX18_addMode_117 : decode cX18_addMode 117 = .ok (.iload_n 1, 1) := by decide +kernel
theorem dX18_addMode_118 : decode cX18_addMode 118 = .ok (.iaload, 1) := by decide +kernel
theorem dX18_addMode_119 : decode cX18_addMode 119 = .ok (.iadd, 1) := by decide +kernel
theorem dX18_addMode_120 : decode cX18_addMode 120 = .ok (.iload_n 3, 1) := by decide +kernel
theorem dX18_addMode_121 : decode cX18_addMode 121 = .ok (.castore, 1) := by decide +kernel
theorem dX18_addMode_122 : decode cX18_addMode 122 = .ok (.aload_n 0, 1) := by decide +kernel
theorem dX18_addMode_123 : decode cX18_addMode 123 = .ok (.getfield 32, 3) := by decide +kernel
theorem dX18_addMode_126 : decode cX18_addMode 126 = .ok (.iload_n 1, 1) := by decide +kernel
theorem dX18_addMode_127 : decode cX18_addMode 127 = .ok (.dup2, 1) := by decide +kernel
theorem dX18_addMode_128 : decode cX18_addMode 128 = .ok (.iaload, 1) := by decide +kernel
theorem dX18_addMode_129 : decode cX18_addMode 129 = .ok (.iconst 1, 1) := by decide +kernel
theorem dX18_addMode_130 : decode cX18_addMode 130 = .ok (.iadd, 1) := by decide +kernel
theorem dX18_addMode_131 : decode cX18_addMode 131 = .ok (.iastore, 1) := by decide +kernel
theorem dX18_addMode_132 : decode cX18_addMode 132 = .ok (.aload_n 0, 1) := by decide +kernel
theorem dX18_addMode_133 : decode cX18_addMode 133 = .ok (.getfield 32, 3) := by decide +kernel
theorem dX18_addMode_136 : decode cX18_addMode 136 = .ok (.iload_n 1, 1) := by decide +kernel
theorem dX18_addMode_137 : decode cX18_addMode 137 = .ok (.iaload, 1) := by decide +kernel
theorem dX18_addMode_138 : decode cX18_addMode 138 = .ok (.iconst 1, 1) := by decide +kernel
theorem dX18_addMode_139 : decode cX18_addMode 139 = .ok (.isub, 1) := by decide +kernel
theorem dX18_addMode_140 : decode cX18_addMode 140 = .ok (.ireturn, 1) := by decide +kernel
set_option maxRecDepth 20000 in
theorem ggX18_addClause_X18_isPredicate : GoodIn wsX18_addClause wsX18_isPredicate := goodIn_r _ [12, 13, 14, 15, 11, 16, 21, 22, 23, 24, 25, 26, 27, 28, 29, 30, 31, 32, 33, 34, 35, 36, 37, 38, 39, 40, 41, 42, 43, 44, 45, 46, 47, 48, 49, 50, 51, 52, 53, 54, 55, 56, 57, 58, 59, 60, 61, 62, 63, 64, 65, 66, 67, 68, 69, 70, 71, 72, 73, 74, 75, 76, 77, 78, 79, 80, 81, 82, 83, 84, 85, 86, 87, 88, 89, 90] (by decide +kernel) (by decide +kernel)
set_option maxRecDepth 20000 in
theorem gX18_addClause_X18_isPredicate : GoodIn wsX18_addClause (wsV RX18 172 RX18 yX18_isPredicate wsX18_isPredicate) := goodIn_app (goodIn_of _ (by decide +kernel)) ggX18_addClause_X18_isPredicate
set_option maxRecDepth 20000 in
theorem ggX18_addClause_X18_fails : GoodIn wsX18_addClause wsX18_fails := goodIn_r _ [20, 1, 21, 22, 23, 24, 25, 26, 27, 28, 29, 30, 31, 32, 33, 34, 35, 36, 37, 38, 39, 40, 41, 42, 43, 44, 45, 46, 47, 48, 49, 50, 51, 52, 53, 54, 55, 56, 57, 58, 59, 60, 61, 62, 63, 64, 65, 66, 67, 68, 69, 70, 71, 72, 73, 74, 75, 76, 77, 78, 79, 80, 81, 82, 83, 84, 85, 86, 87, 88, 89, 90] (by decide +kernel) (by decide +kernel)
set_option maxRecDepth 20000 in
theorem gX18_addClause_X18_fails : GoodIn wsX18_addClause (wsV RX18 141 RX18 yX18_fails wsX18_fails) := goodIn_app (goodIn_of _ (by decide +kernel)) ggX18_addClause_X18_fails
theorem dX18_addClause_0 : decode cX18_addClause 0 = .ok (.aload_n 0, 1) := by decide +kernel
theorem dX18_addClause_1 : decode cX18_addClause 1 = .ok (.iconst 0, 1) := by decide +kernel
theorem dX18_addClause_2 : decode cX18_addClause 2 = .ok (.putfield 130, 3) := by decide +kernel
theorem dX18_addClause_5 : decode cX18_addClause 5 = .ok (.aload_n 0, 1) := by decide +kernel
theorem dX18_addClause_6 : decode cX18_addClause 6 = .ok (.iload_n 1, 1) := by decide +kernel
theorem dX18_addClause_7 : decode cX18_addClause 7 = .ok (.invokevirtual 172, 3) := by decide +kernel
theorem dX18_addClause_10 : decode cX18_addClause 10 = .ok (.ifCond .ne 9, 3) := by decide +kernel
theorem dX18_addClause_13 : decode cX18_addClause 13 = .ok (.aload_n 0, 1) := by decide +kernel
theorem dX18_addClause_14 : decode cX18_addClause 14 = .ok (.iconst 1, 1) := by decide +kernel
theorem dX18_addClause_15 : decode cX18_addClause 15 = .ok (.invokevirtual 141, 3) := by decide +kernel
theorem dX18_addClause_18 : decode cX18_addClause 18 = .ok (.ireturn, 1) := by decide +kernel
theorem dX18_addClause_19 : decode cX18_addClause 19 = .ok (.aload_n 0, 1) := by decide +kernel
theorem dX18_addClause_20 : decode cX18_addClause 20 = .ok (.getfield 175, 3) := by decide +kernel
theorem dX18_addClause_23 : decode cX18_addClause 23 = .ok (.bipush 12, 2) := by decide +kernel
theorem dX18_addClause_25 : decode cX18_addClause 25 = .ok (.if_icmp .eq 10, 3) := by decide +kernel
theorem dX18_addClause_28 : decode cX18_addClause 28 = .ok (.aload_n 0, 1) := by decide +kernel
theorem dX18_addClause_29 : decode cX18_addClause 29 = .ok (.getfield 137, 3) := by decide +kernel
theorem dX18_addClause_32 : decode cX18_addClause 32 = .ok (.ifCond .eq 9, 3) := by decide +kernel
theorem dX18_addClause_35 : decode cX18_addClause 35 = .ok (.aload_n 0, 1) := by decide +kernel
theorem dX18_addClause_36 : decode cX18_addClause 36 = .ok (.iconst 2, 1) := by decide +kernel
theorem dX18_addClause_37 : decode cX18_addClause 37 = .ok (.invokevirtual 141, 3) := by decide +kernel
theorem dX18_addClause_40 : decode cX18_addClause 40 = .ok (.ireturn, 1) := by decide +kernel
theorem dX18_addClause_41 : decode cX18_addClause 41 = .ok (.aload_n 0, 1) := by decide +kernel
theorem dX18_addClause_42 : decode cX18_addClause 42 = .ok (.getfield 42, 3) := by decide +kernel
theorem dX18_addClause_45 : decode cX18_addClause 45 = .ok (.aload_n 0, 1) := by decide +kernel
theorem dX18_addClause_46 : decode cX18_addClause 46 = .ok (.getfield 175, 3) := by decide +kernel
theorem dX18_addClause_49 : decode cX18_addClause 49 = .ok (.iload_n 1, 1) := by decide +kernel
theorem dX18_addClause_50 : decode cX18_addClause 50 = .ok (.iastore, 1) := by decide +kernel
theorem dX18_addClause_51 : decode cX18_addClause 51 = .ok (.iconst 0, 1) := by decide +kernel
theorem dX18_addClause_52 : decode cX18_addClause 52 = .ok (.istore_n 2, 1) := by decide +kernel
theorem dX18_addClause_53 : decode cX18_addClause 53 = .ok (.iload_n 2, 1) := by decide +kernel
theorem dX18_addClause_54 : decode cX18_addClause 54 = .ok (.bipush 8, 2) := by decide +kernel
theorem dX18_addClause_56 : decode cX18_addClause 56 = .ok (.if_icmp .ge 47, 3) := by decide +kernel
theorem dX18_addClause_59 : decode cX18_addClause 59 = .ok (.aload_n 0, 1) := by decide +kernel
theorem dX18_addClause_60 : decode cX18_addClause 60 = .ok (.getfield 48, 3) := by decide +kernel
theorem dX18_addClause_63 : decode cX18_addClause 63 = .ok (.bipush 8, 2) := by decide +kernel
theorem dX18_addClause_65 : decode cX18_addClause 65 = .ok (.aload_n 0, 1) := by decide +kernel
theorem dX18_addClause_66 : decode cX18_addClause 66 = .ok (.getfield 175, 3) := by decide +kernel
theorem dX18_addClause_69 : decode cX18_addClause 69 = .ok (.imul, 1) := by decide +kernel
theorem dX18_addClause_70 : decode cX18_addClause 70 = .ok (.iload_n 2, 1) := by decide +kernel
theorem dX18_addClause_71 : decode cX18_addClause 71 = .ok (.iadd, 1) := by decide +kernel
theorem dX18_addClause_72 : decode cX18_addClause 72 = .ok (.iload_n 2, 1) := by decide +kernel
theorem dX18_addClause_73 : decode cX18_addClause 73 = .ok (.aload_n 0, 1) := by decide +kernel
theorem dX18_addClause_74 : decode cX18_addClause 74 = .ok (.getfield 26, 3) := by decide +kernel
theorem dX18_addClause_77 : decode cX18_addClause 77 = .ok (.iload_n 1, 1) := by decide +kernel
theorem dX18_addClause_78 : decode cX18_addClause 78 = .ok (.iaload, 1) := by decide +kernel
theorem dX18_addClause_79 : decode cX18_addClause 79 = .ok (.if_icmp .ge 16, 3) := by decide +kernel
theorem dX18_addClause_82 : decode cX18_addClause 82 = .ok (.aload_n 0, 1) := by decide +kernel
theorem dX18_addClause_83 : decode cX18_addClause 83 = .ok (.getfield 29, 3) := by decide +kernel
theorem dX18_addClause_86 : decode cX18_addClause 86 = .ok (.iconst 3, 1) := by decide +kernel
theorem dX18_addClause_87 : decode cX18_addClause 87 = .ok (.iload_n 1, 1) := by decide +kernel
theorem dX18_addClause_88 : decode cX18_addClause 88 = .ok (.imul, 1) := by decide +kernel
theorem dX18_addClause_89 : decode cX18_addClause 89 = .ok (.iload_n 2, 1) := by decide +kernel
theorem dX18_addClause_90 : decode cX18_addClause 90 = .ok (.iadd, 1) := by decide +kernel
theorem dX18_addClause_91 : decode cX18_addClause 91 = .ok (.iaload, 1) := by decide +kernel
theorem dX18_addClause_92 : decode cX18_addClause 92 = .ok (.goto 4, 3) := by decide +kernel
theorem dX18_addClause_95 : decode cX18_addClause 95 = .ok (.iconst (-1), 1) := by decide +kernel
theorem dX18_addClause_96 : decode cX18_addClause 96 = .ok (.iastore, 1) := by decide +kernel
theorem dX18_addClause_97 : decode cX18_addClause 97 = .ok (.iinc 2 1, 3) := by decide +kernel
theorem dX18_addClause_100 : decode cX18_addClause 100 = .ok (.goto (-47), 3) := by decide +kernel
theorem dX18_addClause_103 : decode cX18_addClause 103 = .ok (.aload_n 0, 1) := by decide +kernel
theorem dX18_addClause_104 : decode cX18_addClause 104 = .ok (.dup, 1) := by decide +kernel
theorem dX18_addClause_105 : decode cX18_addClause 105 = .ok (.getfield 175, 3) := by decide +kernel
theorem dX18_addClause_108 : decode cX18_addClause 108 = .ok (.iconst 1, 1) := by decide +kernel
theorem dX18_addClause_109 : decode cX18_addClause 109 = .ok (.iadd, 1) := by decide +kernel
theorem dX18_addClause_110 : decode cX18_addClause 110 = .ok (.putfield 175, 3) := by decide +kernel
theorem dX18_addClause_113 : decode cX18_addClause 113 = .ok (.aload_n 0, 1) := by decide +kernel
theorem dX18_addClause_114 : decode cX18_addClause 114 = .ok (.getfield 175, 3) := by decide +kernel
theorem dX18_addClause_117 : decode cX18_addClause 117 = .ok (.iconst 1, 1) := by decide +kernel
theorem dX18_addClause_118 : decode cX18_addClause 118 = .ok (.isub, 1) := by decide +kernel
theorem dX18_addClause_119 : decode cX18_addClause 119 = .ok (.ireturn, 1) := by decide +kernel
set_option maxRecDepth 20000 in
theorem ggX18_isClause_X18_in : GoodIn wsX18_isClause wsX18_in := goodIn_r _ [5] (by decide +kernel) (by decide +kernel)
set_option maxRecDepth 20000 in
theorem gX18_isClause_X18_in : GoodIn wsX18_isClause (va_wsS RX18 145 yX18_in wsX18_in) := goodIn_app (goodIn_of _ (by decide +kernel)) ggX18_isClause_X18_in
theorem dX18_isClause_0 : decode cX18_isClause 0 = .ok (.iload_n 1, 1) := by decide +kernel
theorem dX18_isClause_1 : decode cX18_isClause 1 = .ok (.iconst 0, 1) := by decide +kernel
theorem dX18_isClause_2 : decode cX18_isClause 2 = .ok (.aload_n 0, 1) := by decide +kernel
theorem dX18_isClause_3 : decode cX18_isClause 3 = .ok (.getfield 175, 3) := by decide +kernel
theorem dX18_isClause_6 : decode cX18_isClause 6 = .ok (.iconst 1, 1) := by decide +kernel
theorem dX18_isClause_7 : decode cX18_isClause 7 = .ok (.isub, 1) := by decide +kernel
theorem dX18_isClause_8 : decode cX18_isClause 8 = .ok (.invokestatic 145, 3) := by decide +kernel
theorem dX18_isClause_11 : decode cX18_isClause 11 = .ok (.ireturn, 1) := by decide +kernel
set_option maxRecDepth 20000 in
theorem ggX18_addBuild_X18_isClause : GoodIn wsX18_addBuild wsX18_isClause := goodIn_r _ [9, 10, 11, 12, 8, 13, 41, 42, 43, 44, 45, 46, 47, 48, 49, 50, 51, 52, 53, 54, 55, 56, 57, 58, 59, 60, 61, 62, 63, 64, 65, 66, 67, 68, 69, 70, 71, 72, 73, 74, 75, 76, 77, 78, 79, 80, 81, 82, 83, 84, 85, 86, 87, 88, 89, 90, 91, 92, 93, 94, 95, 96, 97, 98, 99, 100, 101, 102, 103, 104, 105, 106, 107, 108, 109, 110] (by decide +kernel) (by decide +kernel)
set_option maxRecDepth 20000 in
theorem gX18_addBuild_X18_isClause : GoodIn wsX18_addBuild (wsV RX18 178 RX18 yX18_isClause wsX18_isClause) := goodIn_app (goodIn_of _ (by decide +kernel)) ggX18_addBuild_X18_isClause
set_option maxRecDepth 20000 in
theorem ggX18_addBuild_X18_in : GoodIn wsX18_addBuild wsX18_in := goodIn_r _ [13] (by decide +kernel) (by decide +kernel)
set_option maxRecDepth 20000 in
theorem gX18_addBuild_X18_in : GoodIn wsX18_addBuild (va_wsS RX18 145 yX18_in wsX18_in) := goodIn_app (goodIn_of _ (by decide +kernel)) ggX18_addBuild_X18_in
set_option maxRecDepth 20000 in
theorem ggX18_addBuild_X18_fails : GoodIn wsX18_addBuild wsX18_fails := goodIn_r _ [17, 1, 41, 42, 43, 44, 45, 46, 47, 48, 49, 50, 51, 52, 53, 54, 55, 56, 57, 58, 59, 60, 61, 62, 63, 64, 65, 66, 67, 68, 69, 70, 71, 72, 73, 74, 75, 76, 77, 78, 79, 80, 81, 82, 83, 84, 85, 86, 87, 88, 89, 90, 91, 92, 93, 94, 95, 96, 97, 98, 99, 100, 101, 102, 103, 104, 105, 106, 107, 108, 109, 110] (by decide +kernel) (by decide +kernel)
set_option maxRecDepth 20000 in
theorem gX18_addBuild_X18_fails : GoodIn wsX18_addBuild (wsV RX18 141 RX18 yX18_fails wsX18_fails) := goodIn_app (goodIn_of _ (by decide +kernel)) ggX18_addBuild_X18_fails
set_option maxRecDepth 20000 in
theorem ggX18_addBuild_X18_parts : GoodIn wsX18_addBuild wsX18_parts := goodIn_ca (goodIn_r _ [31, 4, 41, 42, 43, 44, 45, 46, 47, 48, 49, 50, 51, 52, 53, 54, 55, 56, 57, 58, 59, 60, 61, 62, 63, 64, 65, 66, 67, 68, 69, 70, 71, 72, 73, 74, 75, 76, 77, 78, 79, 80, 81, 82, 83, 84, 85, 86, 87, 88, 89, 90, 91, 92, 93, 94, 95, 96, 97, 98, 99, 100, 101, 102, 103, 104, 105, 106, 107, 108, 109, 110] (by decide +kernel) (by decide +kernel)) (goodIn_sub (fun _ h => List.mem_cons_of_mem _ (List.mem_append_right _ h)) (by decide +kernel))
set_option maxRecDepth 20000 in
theorem gX18_addBuild_X18_parts : GoodIn wsX18_addBuild (wsV RX18 155 RX18 yX18_parts wsX18_parts) := goodIn_app (goodIn_of _ (by decide +kernel)) ggX18_addBuild_X18_parts
theorem dX18_addBuild_0 : decode cX18_addBuild 0 = .ok (.aload_n 0, 1) := by decide +kernel
theorem dX18_addBuild_1 : decode cX18_addBuild 1 = .ok (.iconst 0, 1) := by decide +kernel
theorem dX18_addBuild_2 : decode cX18_addBuild 2 = .ok (.putfield 130, 3) := by decide +kernel
theorem dX18_addBuild_5 : decode cX18_addBuild 5 = .ok (.aload_n 0, 1) := by decide +kernel
theorem dX18_addBuild_6 : decode cX18_addBuild 6 = .ok (.iload_n 1, 1) := by decide +kernel
theorem dX18_addBuild_7 : decode cX18_addBuild 7 = .ok (.invokevirtual 178, 3) := by decide +kernel
theorem dX18_addBuild_10 : decode cX18_addBuild 10 = .ok (.ifCond .eq 49, 3) := by decide +kernel
theorem dX18_addBuild_13 : decode cX18_addBuild 13 = .ok (.iload_n 3, 1) := by decide +kernel
theorem dX18_addBuild_14 : decode cX18_addBuild 14 = .ok (.iconst 0, 1) := by decide +kernel
theorem dX18_addBuild_15 : decode cX18_addBuild 15 = .ok (.aload_n 0, 1) := by decide +kernel
theorem dX18_addBuild_16 : decode cX18_addBuild 16 = .ok (.getfield 149, 3) := by decide +kernel
theorem dX18_addBuild_19 : decode cX18_addBuild 19 = .ok (.iconst 1, 1) := by decide +kernel
theorem dX18_addBuild_20 : decode cX18_addBuild 20 = .ok (.isub, 1) := by decide +kernel
theorem dX18_addBuild_21 : decode cX18_addBuild 21 = .ok (.invokestatic 145, 3) := by decide +kernel
theorem dX18_addBuild_24 : decode cX18_addBuild 24 = .ok (.ifCond .eq 35, 3) := by decide +kernel
theorem dX18_addBuild_27 : decode cX18_addBuild 27 = .ok (.iload_n 2, 1) := by decide +kernel
theorem dX18_addBuild_28 : decode cX18_addBuild 28 = .ok (.iconst 0, 1) := by decide +kernel
theorem dX18_addBuild_29 : decode cX18_addBuild 29 = .ok (.bipush 7, 2) := by decide +kernel
theorem dX18_addBuild_31 : decode cX18_addBuild 31 = .ok (.invokestatic 145, 3) := by decide +kernel
theorem dX18_addBuild_34 : decode cX18_addBuild 34 = .ok (.ifCond .eq 25, 3) := by decide +kernel
theorem dX18_addBuild_37 : decode cX18_addBuild 37 = .ok (.iload 4, 2) := by decide +kernel
theorem dX18_addBuild_39 : decode cX18_addBuild 39 = .ok (.iconst 0, 1) := by decide +kernel
theorem dX18_addBuild_40 : decode cX18_addBuild 40 = .ok (.bipush 7, 2) := by decide +kernel
theorem dX18_addBuild_42 : decode cX18_addBuild 42 = .ok (.invokestatic 145, 3) := by decide +kernel
theorem dX18_addBuild_45 : decode cX18_addBuild 45 = .ok (.ifCond .eq 14, 3) := by decide +kernel
theorem dX18_addBuild_48 : decode cX18_addBuild 48 = .ok (.iload 5, 2) := by decide +kernel
theorem dX18_addBuild_50 : decode cX18_addBuild 50 = .ok (.iconst 0, 1) := by decide +kernel
theorem dX18_addBuild_51 : decode cX18_addBuild 51 = .ok (.bipush 7, 2) := by decide +kernel
theorem dX18_addBuild_53 : decode cX18_addBuild 53 = .ok (.invokestatic 145, 3) := by decide +kernel
theorem dX18_addBuild_56 : decode cX18_addBuild 56 = .ok (.ifCond .ne 9, 3) := by decide +kernel
theorem dX18_addBuild_59 : decode cX18_addBuild 59 = .ok (.aload_n 0, 1) := by decide +kernel
theorem dX18_addBuild_60 : decode cX18_addBuild 60 = .ok (.iconst 1, 1) := by decide +kernel
theorem dX18_addBuild_61 : decode cX18_addBuild 61 = .ok (.invokevirtual 141, 3) := by decide +kernel
theorem dX18_addBuild_64 : decode cX18_addBuild 64 = .ok (.ireturn, 1) := by decide +kernel
theorem dX18_addBuild_65 : decode cX18_addBuild 65 = .ok (.aload_n 0, 1) := by decide +kernel
theorem dX18_addBuild_66 : decode cX18_addBuild 66 = .ok (.iload_n 1, 1) := by decide +kernel
theorem dX18_addBuild_67 : decode cX18_addBuild 67 = .ok (.invokevirtual 181, 3) := by decide +kernel
theorem dX18_addBuild_70 : decode cX18_addBuild 70 = .ok (.aload_n 0, 1) := by decide +kernel
theorem dX18_addBuild_71 : decode cX18_addBuild 71 = .ok (.iload_n 2, 1) := by decide +kernel
theorem dX18_addBuild_72 : decode cX18_addBuild 72 = .ok (.aload_n 0, 1) := by decide +kernel
theorem dX18_addBuild_73 : decode cX18_addBuild 73 = .ok (.getfield 7, 3) := by decide +kernel
theorem dX18_addBuild_76 : decode cX18_addBuild 76 = .ok (.iload_n 3, 1) := by decide +kernel
theorem dX18_addBuild_77 : decode cX18_addBuild 77 = .ok (.iaload, 1) := by decide +kernel
theorem dX18_addBuild_78 : decode cX18_addBuild 78 = .ok (.invokevirtual 185, 3) := by decide +kernel
theorem dX18_addBuild_81 : decode cX18_addBuild 81 = .ok (.istore 6, 2) := by decide +kernel
theorem dX18_addBuild_83 : decode cX18_addBuild 83 = .ok (.iload 6, 2) := by decide +kernel
theorem dX18_addBuild_85 : decode cX18_addBuild 85 = .ok (.ifCond .eq 40, 3) := by decide +kernel
theorem dX18_addBuild_88 : decode cX18_addBuild 88 = .ok (.aload_n 0, 1) := by decide +kernel
theorem dX18_addBuild_89 : decode cX18_addBuild 89 = .ok (.iload_n 3, 1) := by decide +kernel
theorem dX18_addBuild_90 : decode cX18_addBuild 90 = .ok (.invokevirtual 155, 3) := by decide +kernel
theorem dX18_addBuild_93 : decode cX18_addBuild 93 = .ok (.ifCond .le 23, 3) := by decide +kernel
theorem dX18_addBuild_96 : decode cX18_addBuild 96 = .ok (.aload_n 0, 1) := by decide +kernel
theorem dX18_addBuild_97 : decode cX18_addBuild 97 = .ok (.iload 4, 2) := by decide +kernel
theorem dX18_addBuild_99 : decode cX18_addBuild 99 = .ok (.aload_n 0, 1) := by decide +kernel
theorem dX18_addBuild_100 : decode cX18_addBuild 100 = .ok (.getfield 13, 3) := by decide +kernel
theorem dX18_addBuild_103 : decode cX18_addBuild 103 = .ok (.iconst 2, 1) := by decide +kernel
theorem dX18_addBuild_104 : decode cX18_addBuild 104 = .ok (.iload_n 3, 1) := by decide +kernel
theorem dX18_addBuild_105 : decode cX18_addBuild 105 = .ok (.imul, 1) := by decide +kernel
theorem dX18_addBuild_106 : decode cX18_addBuild 106 = .ok (.iaload, 1) := by decide +kernel
theorem dX18_addBuild_107 : decode cX18_addBuild 107 = .ok (.invokevirtual 185, 3) := by decide +kernel
theorem dX18_addBuild_110 : decode cX18_addBuild 110 = .ok (.ifCond .eq 15, 3) := by decide +kernel
theorem dX18_addBuild_113 : decode cX18_addBuild 113 = .ok (.goto 8, 3) := by decide +kernel
theorem dX18_addBuild_116 : decode cX18_addBuild 116 = .ok (.iload 4, 2) := by decide +kernel
theorem dX18_addBuild_118 : decode cX18_addBuild 118 = .ok (.ifCond .ne 7, 3) := by decide +kernel
theorem dX18_addBuild_121 : decode cX18_addBuild 121 = .ok (.iconst 1, 1) := by decide +kernel
theorem dX18_addBuild_122 : decode cX18_addBuild 122 = .ok (.goto 4, 3) := by decide +kernel
theorem dX18_addBuild_125 : decode cX18_addBuild 125 = .ok (.iconst 0, 1) := by decide +kernel
theorem dX18_addBuild_126 : decode cX18_addBuild 126 = .ok (.istore 6, 2) := by decide +kernel
theorem dX18_addBuild_128 : decode cX18_addBuild 128 = .ok (.iload 6, 2) := by decide +kernel
theorem dX18_addBuild_130 : decode cX18_addBuild 130 = .ok (.ifCond .eq 43, 3) := by decide +kernel
theorem dX18_addBuild_133 : decode cX18_addBuild 133 = .ok (.aload_n 0, 1) := by decide +kernel
theorem dX18_addBuild_134 : decode cX18_addBuild 134 = .ok (.iload_n 3, 1) := by decide +kernel
theorem dX18_addBuild_135 : decode cX18_addBuild 135 = .ok (.invokevirtual 155, 3) := by decide +kernel
theorem dX18_addBuild_138 : decode cX18_addBuild 138 = .ok (.iconst 1, 1) := by decide +kernel
theorem dX18_addBuild_139 : decode cX18_addBuild 139 = .ok (.if_icmp .le 25, 3) := by decide +kernel
theorem dX18_addBuild_142 : decode cX18_addBuild 142 = .ok (.aload_n 0, 1) := by decide +kernel
theorem dX18_addBuild_143 : decode cX18_addBuild 143 = .ok (.iload 5, 2) := by decide +kernel
theorem dX18_addBuild_145 : decode cX18_addBuild 145 = .ok (.aload_n 0, 1) := by decide +kernel
theorem dX18_addBuild_146 : decode cX18_addBuild 146 = .ok (.getfield 13, 3) := by decide +kernel
theorem dX18_addBuild_149 : decode cX18_addBuild 149 = .ok (.iconst 2, 1) := by decide +kernel
theorem dX18_addBuild_150 : decode cX18_addBuild 150 = .ok (.iload_n 3, 1) := by decide +kernel
theorem dX18_addBuild_151 : decode cX18_addBuild 151 = .ok (.imul, 1) := by decide +kernel
theorem dX18_addBuild_152 : decode cX18_addBuild 152 = .ok (.iconst 1, 1) := by decide +kernel
theorem dX18_addBuild_153 : decode cX18_addBuild 153 = .ok (.iadd, 1) := by decide +kernel
theorem dX18_addBuild_154 : decode cX18_addBuild 154 = .ok (.iaload, 1) := by decide +kernel
theorem dX18_addBuild_155 : decode cX18_addBuild 155 = .ok (.invokevirtual 185, 3) := by decide +kernel
theorem dX18_addBuild_158 : decode cX18_addBuild 158 = .ok (.ifCond .eq 15, 3) := by decide +kernel
theorem dX18_addBuild_161 : decode cX18_addBuild 161 = .ok (.goto 8, 3) := by decide +kernel
theorem dX18_addBuild_164 : decode cX18_addBuild 164 = .ok (.iload 5, 2) := by decide +kernel
theorem dX18_addBuild_166 : decode cX18_addBuild 166 = .ok (.ifCond .ne 7, 3) := by decide +kernel
theorem dX18_addBuild_169 : decode cX18_addBuild 169 = .ok (.iconst 1, 1) := by decide +kernel
theorem dX18_addBuild_170 : decode cX18_addBuild 170 = .ok (.goto 4, 3) := by decide +kernel
theorem dX18_addBuild_173 : decode cX18_addBuild 173 = .ok (.iconst 0, 1) := by decide +kernel
theorem dX18_addBuild_174 : decode cX18_addBuild 174 = .ok (.istore 6, 2) := by decide +kernel
theorem dX18_addBuild_176 : decode cX18_addBuild 176 = .ok (.iload 6, 2) := by decide +kernel
theorem dX18_addBuild_178 : decode cX18_addBuild 178 = .ok (.ifCond .eq 19, 3) := by decide +kernel
theorem dX18_addBuild_181 : decode cX18_addBuild 181 = .ok (.aload_n 0, 1) := by decide +kernel
theorem dX18_addBuild_182 : decode cX18_addBuild 182 = .ok (.iload_n 1, 1) := by decide +kernel
theorem dX18_addBuild_183 : decode cX18_addBuild 183 = .ok (.bipush 98, 2) := by decide +kernel
theorem dX18_addBuild_185 : decode cX18_addBuild 185 = .ok (.iload_n 3, 1) := by decide +kernel
theorem dX18_addBuild_186 : decode cX18_addBuild 186 = .ok (.iload_n 2, 1) := by decide +kernel
theorem dX18_addBuild_187 : decode cX18_addBuild 187 = .ok (.iload 4, 2) := by decide +kernel
theorem dX18_addBuild_189 : decode cX18_addBuild 189 = .ok (.iload 5, 2) := by decide +kernel
theorem dX18_addBuild_191 : decode cX18_addBuild 191 = .ok (.invokevirtual 189, 3) := by decide +kernel
theorem dX18_addBuild_194 : decode cX18_addBuild 194 = .ok (.goto 8, 3) := by decide +kernel
theorem dX18_addBuild_197 : decode cX18_addBuild 197 = .ok (.aload_n 0, 1) := by decide +kernel
theorem dX18_addBuild_198 : decode cX18_addBuild 198 = .ok (.iconst 2, 1) := by decide +kernel
theorem dX18_addBuild_199 : decode cX18_addBuild 199 = .ok (.invokevirtual 141, 3) := by decide +kernel
theorem dX18_addBuild_202 : decode cX18_addBuild 202 = .ok (.ireturn, 1) := by decide +kernel
set_option maxRecDepth 20000 in
theorem ggX18_addSame_X18_isClause : GoodIn wsX18_addSame wsX18_isClause := goodIn_r _ [7, 8, 9, 10, 6, 11, 34, 35, 36, 37, 38, 39, 40, 41, 42, 43, 44, 45, 46, 47, 48, 49, 50, 51, 52, 53, 54, 55, 56, 57, 58, 59, 60, 61, 62, 63, 64, 65, 66, 67, 68, 69, 70, 71, 72, 73, 74, 75, 76, 77, 78, 79, 80, 81, 82, 83, 84, 85, 86, 87, 88, 89, 90, 91, 92, 93, 94, 95, 96, 97, 98, 99, 100, 101, 102, 103] (by decide +kernel) (by decide +kernel)
set_option maxRecDepth 20000 in
theorem gX18_addSame_X18_isClause : GoodIn wsX18_addSame (wsV RX18 178 RX18 yX18_isClause wsX18_isClause) := goodIn_app (goodIn_of _ (by decide +kernel)) ggX18_addSame_X18_isClause
set_option maxRecDepth 20000 in
theorem ggX18_addSame_X18_in : GoodIn wsX18_addSame wsX18_in := goodIn_r _ [11] (by decide +kernel) (by decide +kernel)
set_option maxRecDepth 20000 in
theorem gX18_addSame_X18_in : GoodIn wsX18_addSame (va_wsS RX18 145 yX18_in wsX18_in) := goodIn_app (goodIn_of _ (by decide +kernel)) ggX18_addSame_X18_in
set_option maxRecDepth 20000 in
theorem ggX18_addSame_X18_fails : GoodIn wsX18_addSame wsX18_fails := goodIn_r _ [15, 1, 34, 35, 36, 37, 38, 39, 40, 41, 42, 43, 44, 45, 46, 47, 48, 49, 50, 51, 52, 53, 54, 55, 56, 57, 58, 59, 60, 61, 62, 63, 64, 65, 66, 67, 68, 69, 70, 71, 72, 73, 74, 75, 76, 77, 78, 79, 80, 81, 82, 83, 84, 85, 86, 87, 88, 89, 90, 91, 92, 93, 94, 95, 96, 97, 98, 99, 100, 101, 102, 103] (by decide +kernel) (by decide +kernel)
set_option maxRecDepth 20000 in
theorem gX18_addSame_X18_fails : GoodIn wsX18_addSame (wsV RX18 141 RX18 yX18_fails wsX18_fails) := goodIn_app (goodIn_of _ (by decide +kernel)) ggX18_addSame_X18_fails
theorem dX18_addSame_0 : decode cX18_addSame 0 = .ok (.aload_n 0, 1) := by decide +kernel
theorem dX18_addSame_1 : decode cX18_addSame 1 = .ok (.iconst 0, 1) := by decide +kernel
theorem dX18_addSame_2 : decode cX18_addSame 2 = .ok (.putfield 130, 3) := by decide +kernel
theorem dX18_addSame_5 : decode cX18_addSame 5 = .ok (.aload_n 0, 1) := by decide +kernel
theorem dX18_addSame_6 : decode cX18_addSame 6 = .ok (.iload_n 1, 1) := by decide +kernel
theorem dX18_addSame_7 : decode cX18_addSame 7 = .ok (.invokevirtual 178, 3) := by decide +kernel
theorem dX18_addSame_10 : decode cX18_addSame 10 = .ok (.ifCond .eq 23, 3) := by decide +kernel
theorem dX18_addSame_13 : decode cX18_addSame 13 = .ok (.iload_n 2, 1) := by decide +kernel
theorem dX18_addSame_14 : decode cX18_addSame 14 = .ok (.iconst 0, 1) := by decide +kernel
theorem dX18_addSame_15 : decode cX18_addSame 15 = .ok (.bipush 7, 2) := by decide +kernel
theorem dX18_addSame_17 : decode cX18_addSame 17 = .ok (.invokestatic 145, 3) := by decide +kernel
theorem dX18_addSame_20 : decode cX18_addSame 20 = .ok (.ifCond .eq 13, 3) := by decide +kernel
theorem dX18_addSame_23 : decode cX18_addSame 23 = .ok (.iload_n 3, 1) := by decide +kernel
theorem dX18_addSame_24 : decode cX18_addSame 24 = .ok (.iconst 0, 1) := by decide +kernel
theorem dX18_addSame_25 : decode cX18_addSame 25 = .ok (.bipush 7, 2) := by decide +kernel
theorem dX18_addSame_27 : decode cX18_addSame 27 = .ok (.invokestatic 145, 3) := by decide +kernel
theorem dX18_addSame_30 : decode cX18_addSame 30 = .ok (.ifCond .ne 9, 3) := by decide +kernel
theorem dX18_addSame_33 : decode cX18_addSame 33 = .ok (.aload_n 0, 1) := by decide +kernel
theorem dX18_addSame_34 : decode cX18_addSame 34 = .ok (.iconst 1, 1) := by decide +kernel
theorem dX18_addSame_35 : decode cX18_addSame 35 = .ok (.invokevirtual 141, 3) := by decide +kernel
theorem dX18_addSame_38 : decode cX18_addSame 38 = .ok (.ireturn, 1) := by decide +kernel
theorem dX18_addSame_39 : decode cX18_addSame 39 = .ok (.aload_n 0, 1) := by decide +kernel
theorem dX18_addSame_40 : decode cX18_addSame 40 = .ok (.iload_n 1, 1) := by decide +kernel
theorem dX18_addSame_41 : decode cX18_addSame 41 = .ok (.invokevirtual 181, 3) := by decide +kernel
theorem dX18_addSame_44 : decode cX18_addSame 44 = .ok (.aload_n 0, 1) := by decide +kernel
theorem dX18_addSame_45 : decode cX18_addSame 45 = .ok (.getfield 88, 3) := by decide +kernel
theorem dX18_addSame_48 : decode cX18_addSame 48 = .ok (.iload_n 2, 1) := by decide +kernel
theorem dX18_addSame_49 : decode cX18_addSame 49 = .ok (.iaload, 1) := by decide +kernel
theorem dX18_addSame_50 : decode cX18_addSame 50 = .ok (.iconst (-1), 1) := by decide +kernel
theorem dX18_addSame_51 : decode cX18_addSame 51 = .ok (.if_icmp .ne 12, 3) := by decide +kernel
theorem dX18_addSame_54 : decode cX18_addSame 54 = .ok (.aload_n 0, 1) := by decide +kernel
theorem dX18_addSame_55 : decode cX18_addSame 55 = .ok (.getfield 88, 3) := by decide +kernel
theorem dX18_addSame_58 : decode cX18_addSame 58 = .ok (.iload_n 3, 1) := by decide +kernel
theorem dX18_addSame_59 : decode cX18_addSame 59 = .ok (.iaload, 1) := by decide +kernel
theorem dX18_addSame_60 : decode cX18_addSame 60 = .ok (.goto 9, 3) := by decide +kernel
theorem dX18_addSame_63 : decode cX18_addSame 63 = .ok (.aload_n 0, 1) := by decide +kernel
theorem dX18_addSame_64 : decode cX18_addSame 64 = .ok (.getfield 88, 3) := by decide +kernel
theorem dX18_addSame_67 : decode cX18_addSame 67 = .ok (.iload_n 2, 1) := by decide +kernel
theorem dX18_addSame_68 : decode cX18_addSame 68 = .ok (.iaload, 1) := by decide +kernel
theorem dX18_addSame_69 : decode cX18_addSame 69 = .ok (.istore 4, 2) := by decide +kernel
theorem dX18_addSame_71 : decode cX18_addSame 71 = .ok (.iload 4, 2) := by decide +kernel
theorem dX18_addSame_73 : decode cX18_addSame 73 = .ok (.iconst (-1), 1) := by decide +kernel
theorem dX18_addSame_74 : decode cX18_addSame 74 = .ok (.if_icmp .eq 23, 3) := by decide +kernel
theorem dX18_addSame_77 : decode cX18_addSame 77 = .ok (.aload_n 0, 1) := by decide +kernel
theorem dX18_addSame_78 : decode cX18_addSame 78 = .ok (.iload_n 2, 1) := by decide +kernel
theorem dX18_addSame_79 : decode cX18_addSame 79 = .ok (.iload 4, 2) := by decide +kernel
theorem dX18_addSame_81 : decode cX18_addSame 81 = .ok (.invokevirtual 185, 3) := by decide +kernel
theorem dX18_addSame_84 : decode cX18_addSame 84 = .ok (.ifCond .eq 13, 3) := by decide +kernel
theorem dX18_addSame_87 : decode cX18_addSame 87 = .ok (.aload_n 0, 1) := by decide +kernel
theorem dX18_addSame_88 : decode cX18_addSame 88 = .ok (.iload_n 3, 1) := by decide +kernel
theorem dX18_addSame_89 : decode cX18_addSame 89 = .ok (.iload 4, 2) := by decide +kernel
theorem dX18_addSame_91 : decode cX18_addSame 91 = .ok (.invokevirtual 185, 3) := by decide +kernel
theorem dX18_addSame_94 : decode cX18_addSame 94 = .ok (.ifCond .ne 9, 3) := by decide +kernel
theorem dX18_addSame_97 : decode cX18_addSame 97 = .ok (.aload_n 0, 1) := by decide +kernel
theorem dX18_addSame_98 : decode cX18_addSame 98 = .ok (.iconst 2, 1) := by decide +kernel
theorem dX18_addSame_99 : decode cX18_addSame 99 = .ok (.invokevirtual 141, 3) := by decide +kernel
theorem dX18_addSame_102 : decode cX18_addSame 102 = .ok (.ireturn, 1) := by decide +kernel
theorem dX18_addSame_103 : decode cX18_addSame 103 = .ok (.aload_n 0, 1) := by decide +kernel
theorem dX18_addSame_104 : decode cX18_addSame 104 = .ok (.iload_n 1, 1) := by decide +kernel
theorem dX18_addSame_105 : decode cX18_addSame 105 = .ok (.bipush 115, 2) := by decide +kernel
theorem dX18_addSame_107 : decode cX18_addSame 107 = .ok (.iconst 0, 1) := by decide +kernel
theorem dX18_addSame_108 : decode cX18_addSame 108 = .ok (.iload_n 2, 1) := by decide +kernel
theorem dX18_addSame_109 : decode cX18_addSame 109 = .ok (.iload_n 3, 1) := by decide +kernel
theorem dX18_addSame_110 : decode cX18_addSame 110 = .ok (.iconst 0, 1) := by decide +kernel
theorem dX18_addSame_111 : decode cX18_addSame 111 = .ok (.invokevirtual 189, 3) := by decide +kernel
theorem dX18_addSame_114 : decode cX18_addSame 114 = .ok (.ireturn, 1) := by decide +kernel
set_option maxRecDepth 20000 in
theorem ggX18_addCall_X18_isClause : GoodIn wsX18_addCall wsX18_isClause := goodIn_r _ [8, 9, 10, 11, 7, 12, 41, 42, 43, 44, 45, 46, 47, 48, 49, 50, 51, 52, 53, 54, 55, 56, 57, 58, 59, 60, 61, 62, 63, 64, 65, 66, 67, 68, 69, 70, 71, 72, 73, 74, 75, 76, 77, 78, 79, 80, 81, 82, 83, 84, 85, 86, 87, 88, 89, 90, 91, 92, 93, 94, 95, 96, 97, 98, 99, 100, 101, 102, 103, 104, 105, 106, 107, 108, 109, 110] (by decide +kernel) (by decide +kernel)
set_option maxRecDepth 20000 in
theorem gX18_addCall_X18_isClause : GoodIn wsX18_addCall (wsV RX18 178 RX18 yX18_isClause wsX18_isClause) := goodIn_app (goodIn_of _ (by decide +kernel)) ggX18_addCall_X18_isClause
set_option maxRecDepth 20000 in
theorem ggX18_addCall_X18_isPredicate : GoodIn wsX18_addCall wsX18_isPredicate := goodIn_r _ [16, 17, 10, 11, 7, 12, 41, 42, 43, 44, 45, 46, 47, 48, 49, 50, 51, 52, 53, 54, 55, 56, 57, 58, 59, 60, 61, 62, 63, 64, 65, 66, 67, 68, 69, 70, 71, 72, 73, 74, 75, 76, 77, 78, 79, 80, 81, 82, 83, 84, 85, 86, 87, 88, 89, 90, 91, 92, 93, 94, 95, 96, 97, 98, 99, 100, 101, 102, 103, 104, 105, 106, 107, 108, 109, 110] (by decide +kernel) (by decide +kernel)
set_option maxRecDepth 20000 in
theorem gX18_addCall_X18_isPredicate : GoodIn wsX18_addCall (wsV RX18 172 RX18 yX18_isPredicate wsX18_isPredicate) := goodIn_app (goodIn_of _ (by decide +kernel)) ggX18_addCall_X18_isPredicate
set_option maxRecDepth 20000 in
theorem ggX18_addCall_X18_in : GoodIn wsX18_addCall wsX18_in := goodIn_r _ [12] (by decide +kernel) (by decide +kernel)
set_option maxRecDepth 20000 in
theorem gX18_addCall_X18_in : GoodIn wsX18_addCall (va_wsS RX18 145 yX18_in wsX18_in) := goodIn_app (goodIn_of _ (by decide +kernel)) ggX18_addCall_X18_in
set_option maxRecDepth 20000 in
theorem ggX18_addCall_X18_fails : GoodIn wsX18_addCall wsX18_fails := goodIn_r _ [21, 1, 41, 42, 43, 44, 45, 46, 47, 48, 49, 50, 51, 52, 53, 54, 55, 56, 57, 58, 59, 60, 61, 62, 63, 64, 65, 66, 67, 68, 69, 70, 71, 72, 73, 74, 75, 76, 77, 78, 79, 80, 81, 82, 83, 84, 85, 86, 87, 88, 89, 90, 91, 92, 93, 94, 95, 96, 97, 98, 99, 100, 101, 102, 103, 104, 105, 106, 107, 108, 109, 110] (by decide +kernel) (by decide +kernel)
set_option maxRecDepth 20000 in
theorem gX18_addCall_X18_fails : GoodIn wsX18_addCall (wsV RX18 141 RX18 yX18_fails wsX18_fails) := goodIn_app (goodIn_of _ (by decide +kernel)) ggX18_addCall_X18_fails
theorem dX18_addCall_0 : decode cX18_addCall 0 = .ok (.aload_n 0, 1) := by decide +kernel
theorem dX18_addCall_1 : decode cX18_addCall 1 = .ok (.iconst 0, 1) := by decide +kernel
theorem dX18_addCall_2 : decode cX18_addCall 2 = .ok (.putfield 130, 3) := by decide +kernel
theorem dX18_addCall_5 : decode cX18_addCall 5 = .ok (.aload_n 0, 1) := by decide +kernel
theorem dX18_addCall_6 : decode cX18_addCall 6 = .ok (.iload_n 1, 1) := by decide +kernel
theorem dX18_addCall_7 : decode cX18_addCall 7 = .ok (.invokevirtual 178, 3) := by decide +kernel
theorem dX18_addCall_10 : decode cX18_addCall 10 = .ok (.ifCond .eq 43, 3) := by decide +kernel
theorem dX18_addCall_13 : decode cX18_addCall 13 = .ok (.aload_n 0, 1) := by decide +kernel
theorem dX18_addCall_14 : decode cX18_addCall 14 = .ok (.iload_n 2, 1) := by decide +kernel
theorem dX18_addCall_15 : decode cX18_addCall 15 = .ok (.invokevirtual 172, 3) := by decide +kernel
theorem dX18_addCall_18 : decode cX18_addCall 18 = .ok (.ifCond .eq 35, 3) := by decide +kernel
theorem dX18_addCall_21 : decode cX18_addCall 21 = .ok (.iload_n 3, 1) := by decide +kernel
theorem dX18_addCall_22 : decode cX18_addCall 22 = .ok (.iconst 0, 1) := by decide +kernel
theorem dX18_addCall_23 : decode cX18_addCall 23 = .ok (.bipush 7, 2) := by decide +kernel
theorem dX18_addCall_25 : decode cX18_addCall 25 = .ok (.invokestatic 145, 3) := by decide +kernel
theorem dX18_addCall_28 : decode cX18_addCall 28 = .ok (.ifCond .eq 25, 3) := by decide +kernel
theorem dX18_addCall_31 : decode cX18_addCall 31 = .ok (.iload 4, 2) := by decide +kernel
theorem dX18_addCall_33 : decode cX18_addCall 33 = .ok (.iconst 0, 1) := by decide +kernel
theorem dX18_addCall_34 : decode cX18_addCall 34 = .ok (.bipush 7, 2) := by decide +kernel
theorem dX18_addCall_36 : decode cX18_addCall 36 = .ok (.invokestatic 145, 3) := by decide +kernel
theorem dX18_addCall_39 : decode cX18_addCall 39 = .ok (.ifCond .eq 14, 3) := by decide +kernel
theorem dX18_addCall_42 : decode cX18_addCall 42 = .ok (.iload 5, 2) := by decide +kernel
theorem dX18_addCall_44 : decode cX18_addCall 44 = .ok (.iconst 0, 1) := by decide +kernel
theorem dX18_addCall_45 : decode cX18_addCall 45 = .ok (.bipush 7, 2) := by decide +kernel
theorem dX18_addCall_47 : decode cX18_addCall 47 = .ok (.invokestatic 145, 3) := by decide +kernel
theorem dX18_addCall_50 : decode cX18_addCall 50 = .ok (.ifCond .ne 9, 3) := by decide +kernel
theorem dX18_addCall_53 : decode cX18_addCall 53 = .ok (.aload_n 0, 1) := by decide +kernel
theorem dX18_addCall_54 : decode cX18_addCall 54 = .ok (.iconst 1, 1) := by decide +kernel
theorem dX18_addCall_55 : decode cX18_addCall 55 = .ok (.invokevirtual 141, 3) := by decide +kernel
theorem dX18_addCall_58 : decode cX18_addCall 58 = .ok (.ireturn, 1) := by decide +kernel
theorem dX18_addCall_59 : decode cX18_addCall 59 = .ok (.aload_n 0, 1) := by decide +kernel
theorem dX18_addCall_60 : decode cX18_addCall 60 = .ok (.iload_n 1, 1) := by decide +kernel
theorem dX18_addCall_61 : decode cX18_addCall 61 = .ok (.invokevirtual 181, 3) := by decide +kernel
theorem dX18_addCall_64 : decode cX18_addCall 64 = .ok (.aload_n 0, 1) := by decide +kernel
theorem dX18_addCall_65 : decode cX18_addCall 65 = .ok (.getfield 26, 3) := by decide +kernel
theorem dX18_addCall_68 : decode cX18_addCall 68 = .ok (.iload_n 2, 1) := by decide +kernel
theorem dX18_addCall_69 : decode cX18_addCall 69 = .ok (.iaload, 1) := by decide +kernel
theorem dX18_addCall_70 : decode cX18_addCall 70 = .ok (.ifCond .le 19, 3) := by decide +kernel
theorem dX18_addCall_73 : decode cX18_addCall 73 = .ok (.aload_n 0, 1) := by decide +kernel
theorem dX18_addCall_74 : decode cX18_addCall 74 = .ok (.iload_n 3, 1) := by decide +kernel
theorem dX18_addCall_75 : decode cX18_addCall 75 = .ok (.aload_n 0, 1) := by decide +kernel
theorem dX18_addCall_76 : decode cX18_addCall 76 = .ok (.getfield 29, 3) := by decide +kernel
theorem dX18_addCall_79 : decode cX18_addCall 79 = .ok (.iconst 3, 1) := by decide +kernel
theorem dX18_addCall_80 : decode cX18_addCall 80 = .ok (.iload_n 2, 1) := by decide +kernel
theorem dX18_addCall_81 : decode cX18_addCall 81 = .ok (.imul, 1) := by decide +kernel
theorem dX18_addCall_82 : decode cX18_addCall 82 = .ok (.iaload, 1) := by decide +kernel
theorem dX18_addCall_83 : decode cX18_addCall 83 = .ok (.invokevirtual 185, 3) := by decide +kernel
theorem dX18_addCall_86 : decode cX18_addCall 86 = .ok (.goto 12, 3) := by decide +kernel
theorem dX18_addCall_89 : decode cX18_addCall 89 = .ok (.iload_n 3, 1) := by decide +kernel
theorem dX18_addCall_90 : decode cX18_addCall 90 = .ok (.ifCond .ne 7, 3) := by decide +kernel
theorem dX18_addCall_93 : decode cX18_addCall 93 = .ok (.iconst 1, 1) := by decide +kernel
theorem dX18_addCall_94 : decode cX18_addCall 94 = .ok (.goto 4, 3) := by decide +kernel
theorem dX18_addCall_97 : decode cX18_addCall 97 = .ok (.iconst 0, 1) := by decide +kernel
theorem dX18_addCall_98 : decode cX18_addCall 98 = .ok (.istore 7, 2) := by decide +kernel
theorem dX18_addCall_100 : decode cX18_addCall 100 = .ok (.iload 7, 2) := by decide +kernel
theorem dX18_addCall_102 : decode cX18_addCall 102 = .ok (.ifCond .eq 44, 3) := by decide +kernel
theorem dX18_addCall_105 : decode cX18_addCall 105 = .ok (.aload_n 0, 1) := by decide +kernel
theorem dX18_addCall_106 : decode cX18_addCall 106 = .ok (.getfield 26, 3) := by decide +kernel
theorem dX18_addCall_109 : decode cX18_addCall 109 = .ok (.iload_n 2, 1) := by decide +kernel
theorem dX18_addCall_110 : decode cX18_addCall 110 = .ok (.iaload, 1) := by decide +kernel
theorem dX18_addCall_111 : decode cX18_addCall 111 = .ok (.iconst 1, 1) := by decide +kernel
theorem dX18_addCall_112 : decode cX18_addCall 112 = .ok (.if_icmp .le 25, 3) := by decide +kernel
theorem dX18_addCall_115 : decode cX18_addCall 115 = .ok (.aload_n 0, 1) := by decide +kernel
theorem dX18_addCall_116 : decode cX18_addCall 116 = .ok (.iload 4, 2) := by decide +kernel
theorem dX18_addCall_118 : decode cX18_addCall 118 = .ok (.aload_n 0, 1) := by decide +kernel
theorem dX18_addCall_119 : decode cX18_addCall 119 = .ok (.getfield 29, 3) := by decide +kernel
theorem dX18_addCall_122 : decode cX18_addCall 122 = .ok (.iconst 3, 1) := by decide +kernel
theorem dX18_addCall_123 : decode cX18_addCall 123 = .ok (.iload_n 2, 1) := by decide +kernel
theorem dX18_addCall_124 : decode cX18_addCall 124 = .ok (.imul, 1) := by decide +kernel
theorem dX18_addCall_125 : decode cX18_addCall 125 = .ok (.iconst 1, 1) := by decide +kernel
theorem dX18_addCall_126 : decode cX18_addCall 126 = .ok (.iadd, 1) := by decide +kernel
theorem dX18_addCall_127 : decode cX18_addCall 127 = .ok (.iaload, 1) := by decide +kernel
theorem dX18_addCall_128 : decode cX18_addCall 128 = .ok (.invokevirtual 185, 3) := by decide +kernel
theorem dX18_addCall_131 : decode cX18_addCall 131 = .ok (.ifCond .eq 15, 3) := by decide +kernel
theorem dX18_addCall_134 : decode cX18_addCall 134 = .ok (.goto 8, 3) := by decide +kernel
theorem dX18_addCall_137 : decode cX18_addCall 137 = .ok (.iload 4, 2) := by decide +kernel
theorem dX18_addCall_139 : decode cX18_addCall 139 = .ok (.ifCond .ne 7, 3) := by decide +kernel
theorem dX18_addCall_142 : decode cX18_addCall 142 = .ok (.iconst 1, 1) := by decide +kernel
theorem dX18_addCall_143 : decode cX18_addCall 143 = .ok (.goto 4, 3) := by decide +kernel
theorem dX18_addCall_146 : decode cX18_addCall 146 = .ok (.iconst 0, 1) := by decide +kernel
theorem dX18_addCall_147 : decode cX18_addCall 147 = .ok (.istore 7, 2) := by decide +kernel
theorem dX18_addCall_149 : decode cX18_addCall 149 = .ok (.iload 7, 2) := by decide +kernel
theorem dX18_addCall_151 : decode cX18_addCall 151 = .ok (.ifCond .eq 44, 3) := by decide +kernel
theorem dX18_addCall_154 : decode cX18_addCall 154 = .ok (.aload_n 0, 1) := by decide +kernel
theorem dX18_addCall_155 : decode cX18_addCall 155 = .ok (.getfield 26, 3) := by decide +kernel
theorem dX18_addCall_158 : decode cX18_addCall 158 = .ok (.iload_n 2, 1) := by decide +kernel
theorem dX18_addCall_159 : decode cX18_addCall 159 = .ok (.iaload, 1) := by decide +kernel
theorem dX18_addCall_160 : decode cX18_addCall 160 = .ok (.iconst 2, 1) := by decide +kernel
theorem dX18_addCall_161 : decode cX18_addCall 161 = .ok (.if_icmp .le 25, 3) := by decide +kernel
theorem dX18_addCall_164 : decode cX18_addCall 164 = .ok (.aload_n 0, 1) := by decide +kernel
theorem dX18_addCall_165 : decode cX18_addCall 165 = .ok (.iload 5, 2) := by decide +kernel
theorem dX18_addCall_167 : decode cX18_addCall 167 = .ok (.aload_n 0, 1) := by decide +kernel
theorem dX18_addCall_168 : decode cX18_addCall 168 = .ok (.getfield 29, 3) := by decide +kernel
theorem dX18_addCall_171 : decode cX18_addCall 171 = .ok (.iconst 3, 1) := by decide +kernel
theorem dX18_addCall_172 : decode cX18_addCall 172 = .ok (.iload_n 2, 1) := by decide +kernel
theorem dX18_addCall_173 : decode cX18_addCall 173 = .ok (.imul, 1) := by decide +kernel
theorem dX18_addCall_174 : decode cX18_addCall 174 = .ok (.iconst 2, 1) := by decide +kernel
theorem dX18_addCall_175 : decode cX18_addCall 175 = .ok (.iadd, 1) := by decide +kernel
theorem dX18_addCall_176 : decode cX18_addCall 176 = .ok (.iaload, 1) := by decide +kernel
theorem dX18_addCall_177 : decode cX18_addCall 177 = .ok (.invokevirtual 185, 3) := by decide +kernel
theorem dX18_addCall_180 : decode cX18_addCall 180 = .ok (.ifCond .eq 15, 3) := by decide +kernel
theorem dX18_addCall_183 : decode cX18_addCall 183 = .ok (.goto 8, 3) := by decide +kernel
theorem dX18_addCall_186 : decode cX18_addCall 186 = .ok (.iload 5, 2) := by decide +kernel
theorem dX18_addCall_188 : decode cX18_addCall 188 = .ok (.ifCond .ne 7, 3) := by decide +kernel
theorem dX18_addCall_191 : decode cX18_addCall 191 = .ok (.iconst 1, 1) := by decide +kernel
theorem dX18_addCall_192 : decode cX18_addCall 192 = .ok (.goto 4, 3) := by decide +kernel
theorem dX18_addCall_195 : decode cX18_addCall 195 = .ok (.iconst 0, 1) := by decide +kernel
theorem dX18_addCall_196 : decode cX18_addCall 196 = .ok (.istore 7, 2) := by decide +kernel
theorem dX18_addCall_198 : decode cX18_addCall 198 = .ok (.iload 7, 2) := by decide +kernel
theorem dX18_addCall_200 : decode cX18_addCall 200 = .ok (.ifCond .eq 29, 3) := by decide +kernel
theorem dX18_addCall_203 : decode cX18_addCall 203 = .ok (.aload_n 0, 1) := by decide +kernel
theorem dX18_addCall_204 : decode cX18_addCall 204 = .ok (.iload_n 1, 1) := by decide +kernel
theorem dX18_addCall_205 : decode cX18_addCall 205 = .ok (.iload 6, 2) := by decide +kernel
theorem dX18_addCall_207 : decode cX18_addCall 207 = .ok (.ifCond .eq 8, 3) := by decide +kernel
theorem dX18_addCall_210 : decode cX18_addCall 210 = .ok (.bipush 100, 2) := by decide +kernel
theorem dX18_addCall_212 : decode cX18_addCall 212 = .ok (.goto 5, 3) := by decide +kernel
theorem dX18_addCall_215 : decode cX18_addCall 215 = .ok (.bipush 99, 2) := by decide +kernel
theorem dX18_addCall_217 : decode cX18_addCall 217 = .ok (.iload_n 2, 1) := by decide +kernel
theorem dX18_addCall_218 : decode cX18_addCall 218 = .ok (.iload_n 3, 1) := by decide +kernel
theorem dX18_addCall_219 : decode cX18_addCall 219 = .ok (.iload 4, 2) := by decide +kernel
theorem dX18_addCall_221 : decode cX18_addCall 221 = .ok (.iload 5, 2) := by decide +kernel
theorem dX18_addCall_223 : decode cX18_addCall 223 = .ok (.invokevirtual 189, 3) := by decide +kernel
theorem dX18_addCall_226 : decode cX18_addCall 226 = .ok (.goto 8, 3) := by decide +kernel
theorem dX18_addCall_229 : decode cX18_addCall 229 = .ok (.aload_n 0, 1) := by decide +kernel
theorem dX18_addCall_230 : decode cX18_addCall 230 = .ok (.iconst 2, 1) := by decide +kernel
theorem dX18_addCall_231 : decode cX18_addCall 231 = .ok (.invokevirtual 141, 3) := by decide +kernel
theorem dX18_addCall_234 : decode cX18_addCall 234 = .ok (.ireturn, 1) := by decide +kernel
theorem dX18_orders_0 : decode cX18_orders 0 = .ok (.aload_n 0, 1) := by decide +kernel
theorem dX18_orders_1 : decode cX18_orders 1 = .ok (.getfield 42, 3) := by decide +kernel
theorem dX18_orders_4 : decode cX18_orders 4 = .ok (.iload_n 1, 1) := by decide +kernel
theorem dX18_orders_5 : decode cX18_orders 5 = .ok (.iaload, 1) := by decide +kernel
theorem dX18_orders_6 : decode cX18_orders 6 = .ok (.istore_n 3, 1) := by decide +kernel
theorem dX18_orders_7 : decode cX18_orders 7 = .ok (.aload_n 0, 1) := by decide +kernel
theorem dX18_orders_8 : decode cX18_orders 8 = .ok (.getfield 35, 3) := by decide +kernel
theorem dX18_orders_11 : decode cX18_orders 11 = .ok (.iconst 2, 1) := by decide +kernel
theorem dX18_orders_12 : decode cX18_orders 12 = .ok (.iload_n 3, 1) := by decide +kernel
theorem dX18_orders_13 : decode cX18_orders 13 = .ok (.imul, 1) := by decide +kernel
theorem dX18_orders_14 : decode cX18_orders 14 = .ok (.iload_n 2, 1) := by decide +kernel
theorem dX18_orders_15 : decode cX18_orders 15 = .ok (.iadd, 1) := by decide +kernel
theorem dX18_orders_16 : decode cX18_orders 16 = .ok (.iaload, 1) := by decide +kernel
theorem dX18_orders_17 : decode cX18_orders 17 = .ok (.istore 4, 2) := by decide +kernel
theorem dX18_orders_19 : decode cX18_orders 19 = .ok (.iconst 0, 1) := by decide +kernel
theorem dX18_orders_20 : decode cX18_orders 20 = .ok (.istore 5, 2) := by decide +kernel
theorem dX18_orders_22 : decode cX18_orders 22 = .ok (.iconst 2, 1) := by decide +kernel
theorem dX18_orders_23 : decode cX18_orders 23 = .ok (.iload_n 1, 1) := by decide +kernel
theorem dX18_orders_24 : decode cX18_orders 24 = .ok (.imul, 1) := by decide +kernel
theorem dX18_orders_25 : decode cX18_orders 25 = .ok (.iload_n 2, 1) := by decide +kernel
theorem dX18_orders_26 : decode cX18_orders 26 = .ok (.iadd, 1) := by decide +kernel
theorem dX18_orders_27 : decode cX18_orders 27 = .ok (.istore 6, 2) := by decide +kernel
theorem dX18_orders_29 : decode cX18_orders 29 = .ok (.aload_n 0, 1) := by decide +kernel
theorem dX18_orders_30 : decode cX18_orders 30 = .ok (.getfield 60, 3) := by decide +kernel
theorem dX18_orders_33 : decode cX18_orders 33 = .ok (.iload 6, 2) := by decide +kernel
theorem dX18_orders_35 : decode cX18_orders 35 = .ok (.iconst 0, 1) := by decide +kernel
theorem dX18_orders_36 : decode cX18_orders 36 = .ok (.iastore, 1) := by decide +kernel
theorem dX18_orders_37 : decode cX18_orders 37 = .ok (.iconst 1, 1) := by decide +kernel
theorem dX18_orders_38 : decode cX18_orders 38 = .ok (.istore 7, 2) := by decide +kernel
theorem dX18_orders_40 : decode cX18_orders 40 = .ok (.iload 7, 2) := by decide +kernel
theorem dX18_orders_42 : decode cX18_orders 42 = .ok (.ifCond .eq 201, 3) := by decide +kernel
theorem dX18_orders_45 : decode cX18_orders 45 = .ok (.iconst 0, 1) := by decide +kernel
theorem dX18_orders_46 : decode cX18_orders 46 = .ok (.istore 8, 2) := by decide +kernel
theorem dX18_orders_48 : decode cX18_orders 48 = .ok (.iload 8, 2) := by decide +kernel
theorem dX18_orders_50 : decode cX18_orders 50 = .ok (.aload_n 0, 1) := by decide +kernel
theorem dX18_orders_51 : decode cX18_orders 51 = .ok (.getfield 45, 3) := by decide +kernel
theorem dX18_orders_54 : decode cX18_orders 54 = .ok (.iload_n 1, 1) := by decide +kernel
theorem dX18_orders_55 : decode cX18_orders 55 = .ok (.iaload, 1) := by decide +kernel
theorem dX18_orders_56 : decode cX18_orders 56 = .ok (.if_icmp .ge 35, 3) := by decide +kernel
theorem dX18_orders_59 : decode cX18_orders 59 = .ok (.iload 5, 2) := by decide +kernel
theorem dX18_orders_61 : decode cX18_orders 61 = .ok (.iload 8, 2) := by decide +kernel
theorem dX18_orders_63 : decode cX18_orders 63 = .ok (.ishr, 1) := by decide +kernel
theorem dX18_orders_64 : decode cX18_orders 64 = .ok (.iconst 1, 1) := by decide +kernel
theorem dX18_orders_65 : decode cX18_orders 65 = .ok (.iand, 1) := by decide +kernel
theorem dX18_orders_66 : decode cX18_orders 66 = .ok (.iconst 1, 1) := by decide +kernel
theorem dX18_orders_67 : decode cX18_orders 67 = .ok (.if_icmp .eq 18, 3) := by decide +kernel
theorem dX18_orders_70 : decode cX18_orders 70 = .ok (.aload_n 0, 1) := by decide +kernel
theorem dX18_orders_71 : decode cX18_orders 71 = .ok (.iconst 5, 1) := by decide +kernel
theorem dX18_orders_72 : decode cX18_orders 72 = .ok (.iload_n 1, 1) := by decide +kernel
theorem dX18_orders_73 : decode cX18_orders 73 = .ok (.imul, 1) := by decide +kernel
theorem dX18_orders_74 : decode cX18_orders 74 = .ok (.iload 8, 2) := by decide +kernel
theorem dX18_orders_76 : decode cX18_orders 76 = .ok (.iadd, 1) := by decide +kernel
theorem dX18_orders_77 : decode cX18_orders 77 = .ok (.iload 4, 2) := by decide +kernel
theorem dX18_orders_79 : decode cX18_orders 79 = .ok (.invokevirtual 200, 3) := by decide +kernel
theorem dX18_orders_82 : decode cX18_orders 82 = .ok (.ifCond .ne 9, 3) := by decide +kernel
theorem dX18_orders_85 : decode cX18_orders 85 = .ok (.iinc 8 1, 3) := by decide +kernel
theorem dX18_orders_88 : decode cX18_orders 88 = .ok (.goto (-40), 3) := by decide +kernel
theorem dX18_orders_91 : decode cX18_orders 91 = .ok (.iload 8, 2) := by decide +kernel
theorem dX18_orders_93 : decode cX18_orders 93 = .ok (.aload_n 0, 1) := by decide +kernel
theorem dX18_orders_94 : decode cX18_orders 94 = .ok (.getfield 45, 3) := by decide +kernel
theorem dX18_orders_97 : decode cX18_orders 97 = .ok (.iload_n 1, 1) := by decide +kernel
theorem dX18_orders_98 : decode cX18_orders 98 = .ok (.iaload, 1) := by decide +kernel
theorem dX18_orders_99 : decode cX18_orders 99 = .ok (.if_icmp .ge 7, 3) := by decide +kernel
theorem dX18_orders_102 : decode cX18_orders 102 = .ok (.iconst 1, 1) := by decide +kernel
theorem dX18_orders_103 : decode cX18_orders 103 = .ok (.goto 4, 3) := by decide +kernel
theorem dX18_orders_106 : decode cX18_orders 106 = .ok (.iconst 0, 1) := by decide +kernel
theorem dX18_orders_107 : decode cX18_orders 107 = .ok (.istore 7, 2) := by decide +kernel
theorem dX18_orders_109 : decode cX18_orders 109 = .ok (.iload 7, 2) := by decide +kernel
theorem dX18_orders_111 : decode cX18_orders 111 = .ok (.ifCond .eq 129, 3) := by decide +kernel
theorem dX18_orders_114 : decode cX18_orders 114 = .ok (.iconst 5, 1) := by decide +kernel
theorem dX18_orders_115 : decode cX18_orders 115 = .ok (.iload_n 1, 1) := by decide +kernel
theorem dX18_orders_116 : decode cX18_orders 116 = .ok (.imul, 1) := by decide +kernel
theorem dX18_orders_117 : decode cX18_orders 117 = .ok (.iload 8, 2) := by decide +kernel
theorem dX18_orders_119 : decode cX18_orders 119 = .ok (.iadd, 1) := by decide +kernel
theorem dX18_orders_120 : decode cX18_orders 120 = .ok (.istore 9, 2) := by decide +kernel
theorem dX18_orders_122 : decode cX18_orders 122 = .ok (.iconst 5, 1) := by decide +kernel
theorem dX18_orders_123 : decode cX18_orders 123 = .ok (.iload 6, 2) := by decide +kernel
theorem dX18_orders_125 : decode cX18_orders 125 = .ok (.imul, 1) := by decide +kernel
theorem dX18_orders_126 : decode cX18_orders 126 = .ok (.aload_n 0, 1) := by decide +kernel
theorem dX18_orders_127 : decode cX18_orders 127 = .ok (.getfield 60, 3) := by decide +kernel
theorem dX18_orders_130 : decode cX18_orders 130 = .ok (.iload 6, 2) := by decide +kernel
theorem dX18_orders_132 : decode cX18_orders 132 = .ok (.iaload, 1) := by decide +kernel
theorem dX18_orders_133 : decode cX18_orders 133 = .ok (.iadd, 1) := by decide +kernel
theorem dX18_orders_134 : decode cX18_orders 134 = .ok (.istore 10, 2) := by decide +kernel
theorem dX18_orders_136 : decode cX18_orders 136 = .ok (.aload_n 0, 1) := by decide +kernel
theorem dX18_orders_137 : decode cX18_orders 137 = .ok (.getfield 51, 3) := by decide +kernel
theorem dX18_orders_140 : decode cX18_orders 140 = .ok (.iload 9, 2) := by decide +kernel
theorem dX18_orders_142 : decode cX18_orders 142 = .ok (.caload, 1) := by decide +kernel
theorem dX18_orders_143 : decode cX18_orders 143 = .ok (.bipush 99, 2) := by decide +kernel
theorem dX18_orders_145 : decode cX18_orders 145 = .ok (.if_icmp .eq 15, 3) := by decide +kernel
theorem dX18_orders_148 : decode cX18_orders 148 = .ok (.aload_n 0, 1) := by decide +kernel
theorem dX18_orders_149 : decode cX18_orders 149 = .ok (.getfield 51, 3) := by decide +kernel
theorem dX18_orders_152 : decode cX18_orders 152 = .ok (.iload 9, 2) := by decide +kernel
theorem dX18_orders_154 : decode cX18_orders 154 = .ok (.caload, 1) := by decide +kernel
theorem dX18_orders_155 : decode cX18_orders 155 = .ok (.bipush 100, 2) := by decide +kernel
theorem dX18_orders_157 : decode cX18_orders 157 = .ok (.if_icmp .ne 7, 3) := by decide +kernel
theorem dX18_orders_160 : decode cX18_orders 160 = .ok (.iconst 1, 1) := by decide +kernel
theorem dX18_orders_161 : decode cX18_orders 161 = .ok (.goto 4, 3) := by decide +kernel
theorem dX18_orders_164 : decode cX18_orders 164 = .ok (.iconst 0, 1) := by decide +kernel
theorem dX18_orders_165 : decode cX18_orders 165 = .ok (.istore 11, 2) := by decide +kernel
theorem dX18_orders_167 : decode cX18_orders 167 = .ok (.aload_n 0, 1) := by decide +kernel
theorem dX18_orders_168 : decode cX18_orders 168 = .ok (.getfield 63, 3) := by decide +kernel
theorem dX18_orders_171 : decode cX18_orders 171 = .ok (.iload 10, 2) := by decide +kernel
theorem dX18_orders_173 : decode cX18_orders 173 = .ok (.iload 8, 2) := by decide +kernel
theorem dX18_orders_175 : decode cX18_orders 175 = .ok (.iastore, 1) := by decide +kernel
theorem dX18_orders_176 : decode cX18_orders 176 = .ok (.aload_n 0, 1) := by decide +kernel
theorem dX18_orders_177 : decode cX18_orders 177 = .ok (.getfield 66, 3) := by decide +kernel
theorem dX18_orders_180 : decode cX18_orders 180 = .ok (.iload 10, 2) := by decide +kernel
theorem dX18_orders_182 : decode cX18_orders 182 = .ok (.iload 11, 2) := by decide +kernel
theorem dX18_orders_184 : decode cX18_orders 184 = .ok (.ifCond .eq 14, 3) := by decide +kernel
theorem dX18_orders_187 : decode cX18_orders 187 = .ok (.aload_n 0, 1) := by decide +kernel
theorem dX18_orders_188 : decode cX18_orders 188 = .ok (.iload 9, 2) := by decide +kernel
theorem dX18_orders_190 : decode cX18_orders 190 = .ok (.iload 4, 2) := by decide +kernel
theorem dX18_orders_192 : decode cX18_orders 192 = .ok (.invokevirtual 196, 3) := by decide +kernel
theorem dX18_orders_195 : decode cX18_orders 195 = .ok (.goto 4, 3) := by decide +kernel
theorem dX18_orders_198 : decode cX18_orders 198 = .ok (.iconst (-1), 1) := by decide +kernel
theorem dX18_orders_199 : decode cX18_orders 199 = .ok (.iastore, 1) := by decide +kernel
theorem dX18_orders_200 : decode cX18_orders 200 = .ok (.aload_n 0, 1) := by decide +kernel
theorem dX18_orders_201 : decode cX18_orders 201 = .ok (.getfield 69, 3) := by decide +kernel
theorem dX18_orders_204 : decode cX18_orders 204 = .ok (.iload 10, 2) := by decide +kernel
theorem dX18_orders_206 : decode cX18_orders 206 = .ok (.iload 4, 2) := by decide +kernel
theorem dX18_orders_208 : decode cX18_orders 208 = .ok (.iastore, 1) := by decide +kernel
theorem dX18_orders_209 : decode cX18_orders 209 = .ok (.aload_n 0, 1) := by decide +kernel
theorem dX18_orders_210 : decode cX18_orders 210 = .ok (.getfield 60, 3) := by decide +kernel
theorem dX18_orders_213 : decode cX18_orders 213 = .ok (.iload 6, 2) := by decide +kernel
theorem dX18_orders_215 : decode cX18_orders 215 = .ok (.dup2, 1) := by decide +kernel
theorem dX18_orders_216 : decode cX18_orders 216 = .ok (.iaload, 1) := by decide +kernel
theorem dX18_orders_217 : decode cX18_orders 217 = .ok (.iconst 1, 1) := by decide +kernel
theorem dX18_orders_218 : decode cX18_orders 218 = .ok (.iadd, 1) := by decide +kernel
theorem dX18_orders_219 : decode cX18_orders 219 = .ok (.iastore, 1) := by decide +kernel
theorem dX18_orders_220 : decode cX18_orders 220 = .ok (.iload 5, 2) := by decide +kernel
theorem dX18_orders_222 : decode cX18_orders 222 = .ok (.iconst 1, 1) := by decide +kernel
theorem dX18_orders_223 : decode cX18_orders 223 = .ok (.iload 8, 2) := by decide +kernel
theorem dX18_orders_225 : decode cX18_orders 225 = .ok (.ishl, 1) := by decide +kernel
theorem dX18_orders_226 : decode cX18_orders 226 = .ok (.ior, 1) := by decide +kernel
theorem dX18_orders_227 : decode cX18_orders 227 = .ok (.istore 5, 2) := by decide +kernel
theorem dX18_orders_229 : decode cX18_orders 229 = .ok (.iload 4, 2) := by decide +kernel
theorem dX18_orders_231 : decode cX18_orders 231 = .ok (.aload_n 0, 1) := by decide +kernel
theorem dX18_orders_232 : decode cX18_orders 232 = .ok (.iload 9, 2) := by decide +kernel
theorem dX18_orders_234 : decode cX18_orders 234 = .ok (.invokevirtual 193, 3) := by decide +kernel
theorem dX18_orders_237 : decode cX18_orders 237 = .ok (.ior, 1) := by decide +kernel
theorem dX18_orders_238 : decode cX18_orders 238 = .ok (.istore 4, 2) := by decide +kernel
theorem dX18_orders_240 : decode cX18_orders 240 = .ok (.goto (-200), 3) := by decide +kernel
theorem dX18_orders_243 : decode cX18_orders 243 = .ok (.aload_n 0, 1) := by decide +kernel
theorem dX18_orders_244 : decode cX18_orders 244 = .ok (.getfield 60, 3) := by decide +kernel
theorem dX18_orders_247 : decode cX18_orders 247 = .ok (.iload 6, 2) := by decide +kernel
theorem dX18_orders_249 : decode cX18_orders 249 = .ok (.iaload, 1) := by decide +kernel
theorem dX18_orders_250 : decode cX18_orders 250 = .ok (.aload_n 0, 1) := by decide +kernel
theorem dX18_orders_251 : decode cX18_orders 251 = .ok (.getfield 45, 3) := by decide +kernel
theorem dX18_orders_254 : decode cX18_orders 254 = .ok (.iload_n 1, 1) := by decide +kernel
theorem dX18_orders_255 : decode cX18_orders 255 = .ok (.iaload, 1) := by decide +kernel
theorem dX18_orders_256 : decode cX18_orders 256 = .ok (.if_icmp .ne 25, 3) := by decide +kernel
theorem dX18_orders_259 : decode cX18_orders 259 = .ok (.iload 4, 2) := by decide +kernel
theorem dX18_orders_261 : decode cX18_orders 261 = .ok (.iconst (-1), 1) := by decide +kernel
theorem dX18_orders_262 : decode cX18_orders 262 = .ok (.ixor, 1) := by decide +kernel
theorem dX18_orders_263 : decode cX18_orders 263 = .ok (.iconst 1, 1) := by decide +kernel
theorem dX18_orders_264 : decode cX18_orders 264 = .ok (.aload_n 0, 1) := by decide +kernel
theorem dX18_orders_265 : decode cX18_orders 265 = .ok (.getfield 26, 3) := by decide +kernel
theorem dX18_orders_268 : decode cX18_orders 268 = .ok (.iload_n 3, 1) := by decide +kernel
theorem dX18_orders_269 : decode cX18_orders 269 = .ok (.iaload, 1) := by decide +kernel
theorem dX18_orders_270 : decode cX18_orders 270 = .ok (.ishl, 1) := by decide +kernel
theorem dX18_orders_271 : decode cX18_orders 271 = .ok (.iconst 1, 1) := by decide +kernel
theorem dX18_orders_272 : decode cX18_orders 272 = .ok (.isub, 1) := by decide +kernel
theorem dX18_orders_273 : decode cX18_orders 273 = .ok (.iand, 1) := by decide +kernel
theorem dX18_orders_274 : decode cX18_orders 274 = .ok (.ifCond .ne 7, 3) := by decide +kernel
theorem dX18_orders_277 : decode cX18_orders 277 = .ok (.iconst 1, 1) := by decide +kernel
theorem dX18_orders_278 : decode cX18_orders 278 = .ok (.goto 4, 3) := by decide +kernel
theorem dX18_orders_281 : decode cX18_orders 281 = .ok (.iconst 0, 1) := by decide +kernel
theorem dX18_orders_282 : decode cX18_orders 282 = .ok (.ireturn, 1) := by decide +kernel
set_option maxRecDepth 20000 in
theorem ggX18_orders__X18_orders : GoodIn wsX18_orders_ wsX18_orders := goodIn_ca (goodIn_r _ [14, 4, 15, 16, 17, 18, 19, 20, 21, 22, 23, 24, 25, 13, 26, 27, 28, 29, 30, 31, 32, 33, 34, 35, 36, 37, 38, 39, 40, 41, 2, 46, 47, 48, 49, 50, 51, 52, 53, 54, 55, 56, 57, 58, 59, 60, 61, 62, 63, 64, 65, 66, 67, 68, 69, 70, 71, 72, 73, 74, 75, 76, 77, 78, 79, 80, 81, 82, 83, 84, 85, 86, 87, 88, 89, 90, 91, 92, 93, 94, 95, 96, 97, 98, 99, 100, 101, 102, 103, 104, 105, 106, 107, 108, 109, 110, 111, 112, 113, 114, 115] (by decide +kernel) (by decide +kernel)) (goodIn_sub (fun _ h => List.mem_cons_of_mem _ (List.mem_append_right _ h)) (by decide +kernel))
set_option maxRecDepth 20000 in
theorem gX18_orders__X18_orders : GoodIn wsX18_orders_ (wsV RX18 221 RX18 yX18_orders wsX18_orders) := goodIn_app (goodIn_of _ (by decide +kernel)) ggX18_orders__X18_orders
theorem dX18_orders__0 : decode cX18_orders_ 0 = .ok (.iconst 0, 1) := by decide +kernel
theorem dX18_orders__1 : decode cX18_orders_ 1 = .ok (.istore_n 1, 1) := by decide +kernel
theorem dX18_orders__2 : decode cX18_orders_ 2 = .ok (.iload_n 1, 1) := by decide +kernel
theorem dX18_orders__3 : decode cX18_orders_ 3 = .ok (.aload_n 0, 1) := by decide +kernel
theorem dX18_orders__4 : decode cX18_orders_ 4 = .ok (.getfield 169, 3) := by decide +kernel
theorem dX18_orders__7 : decode cX18_orders_ 7 = .ok (.if_icmp .ge 158, 3) := by decide +kernel
theorem dX18_orders__10 : decode cX18_orders_ 10 = .ok (.iconst 0, 1) := by decide +kernel
theorem dX18_orders__11 : decode cX18_orders_ 11 = .ok (.istore_n 2, 1) := by decide +kernel
theorem dX18_orders__12 : decode cX18_orders_ 12 = .ok (.iload_n 2, 1) := by decide +kernel
theorem dX18_orders__13 : decode cX18_orders_ 13 = .ok (.aload_n 0, 1) := by decide +kernel
theorem dX18_orders__14 : decode cX18_orders_ 14 = .ok (.getfield 32, 3) := by decide +kernel
theorem dX18_orders__17 : decode cX18_orders_ 17 = .ok (.iload_n 1, 1) := by decide +kernel
theorem dX18_orders__18 : decode cX18_orders_ 18 = .ok (.iaload, 1) := by decide +kernel
theorem dX18_orders__19 : decode cX18_orders_ 19 = .ok (.if_icmp .ge 140, 3) := by decide +kernel
theorem dX18_orders__22 : decode cX18_orders_ 22 = .ok (.iconst 1, 1) := by decide +kernel
theorem dX18_orders__23 : decode cX18_orders_ 23 = .ok (.istore_n 3, 1) := by decide +kernel
theorem dX18_orders__24 : decode cX18_orders_ 24 = .ok (.iconst 0, 1) := by decide +kernel
theorem dX18_orders__25 : decode cX18_orders_ 25 = .ok (.istore 4, 2) := by decide +kernel
theorem dX18_orders__27 : decode cX18_orders_ 27 = .ok (.iload 4, 2) := by decide +kernel
theorem dX18_orders__29 : decode cX18_orders_ 29 = .ok (.aload_n 0, 1) := by decide +kernel
theorem dX18_orders__30 : decode cX18_orders_ 30 = .ok (.getfield 175, 3) := by decide +kernel
theorem dX18_orders__33 : decode cX18_orders_ 33 = .ok (.if_icmp .ge 52, 3) := by decide +kernel
theorem dX18_orders__36 : decode cX18_orders_ 36 = .ok (.aload_n 0, 1) := by decide +kernel
theorem dX18_orders__37 : decode cX18_orders_ 37 = .ok (.getfield 42, 3) := by decide +kernel
theorem dX18_orders__40 : decode cX18_orders_ 40 = .ok (.iload 4, 2) := by decide +kernel
theorem dX18_orders__42 : decode cX18_orders_ 42 = .ok (.iaload, 1) := by decide +kernel
theorem dX18_orders__43 : decode cX18_orders_ 43 = .ok (.iload_n 1, 1) := by decide +kernel
theorem dX18_orders__44 : decode cX18_orders_ 44 = .ok (.if_icmp .ne 13, 3) := by decide +kernel
theorem dX18_orders__47 : decode cX18_orders_ 47 = .ok (.aload_n 0, 1) := by decide +kernel
theorem dX18_orders__48 : decode cX18_orders_ 48 = .ok (.iload 4, 2) := by decide +kernel
theorem dX18_orders__50 : decode cX18_orders_ 50 = .ok (.iload_n 2, 1) := by decide +kernel
theorem dX18_orders__51 : decode cX18_orders_ 51 = .ok (.invokevirtual 221, 3) := by decide +kernel
theorem dX18_orders__54 : decode cX18_orders_ 54 = .ok (.ifCond .eq 7, 3) := by decide +kernel
theorem dX18_orders__57 : decode cX18_orders_ 57 = .ok (.iconst 1, 1) := by decide +kernel
theorem dX18_orders__58 : decode cX18_orders_ 58 = .ok (.goto 4, 3) := by decide +kernel
theorem dX18_orders__61 : decode cX18_orders_ 61 = .ok (.iconst 0, 1) := by decide +kernel
theorem dX18_orders__62 : decode cX18_orders_ 62 = .ok (.istore 5, 2) := by decide +kernel
theorem dX18_orders__64 : decode cX18_orders_ 64 = .ok (.iload_n 3, 1) := by decide +kernel
theorem dX18_orders__65 : decode cX18_orders_ 65 = .ok (.ifCond .eq 12, 3) := by decide +kernel
theorem dX18_orders__68 : decode cX18_orders_ 68 = .ok (.iload 5, 2) := by decide +kernel
theorem dX18_orders__70 : decode cX18_orders_ 70 = .ok (.ifCond .eq 7, 3) := by decide +kernel
theorem dX18_orders__73 : decode cX18_orders_ 73 = .ok (.iconst 1, 1) := by decide +kernel
theorem dX18_orders__74 : decode cX18_orders_ 74 = .ok (.goto 4, 3) := by decide +kernel
theorem dX18_orders__77 : decode cX18_orders_ 77 = .ok (.iconst 0, 1) := by decide +kernel
theorem dX18_orders__78 : decode cX18_orders_ 78 = .ok (.istore_n 3, 1) := by decide +kernel
theorem dX18_orders__79 : decode cX18_orders_ 79 = .ok (.iinc 4 1, 3) := by decide +kernel
theorem dX18_orders__82 : decode cX18_orders_ 82 = .ok (.goto (-55), 3) := by decide +kernel
theorem dX18_orders__85 : decode cX18_orders_ 85 = .ok (.aload_n 0, 1) := by decide +kernel
theorem dX18_orders__86 : decode cX18_orders_ 86 = .ok (.getfield 72, 3) := by decide +kernel
theorem dX18_orders__89 : decode cX18_orders_ 89 = .ok (.iconst 2, 1) := by decide +kernel
theorem dX18_orders__90 : decode cX18_orders_ 90 = .ok (.iload_n 1, 1) := by decide +kernel
theorem dX18_orders__91 : decode cX18_orders_ 91 = .ok (.imul, 1) := by decide +kernel
theorem dX18_orders__92 : decode cX18_orders_ 92 = .ok (.iload_n 2, 1) := by decide +kernel
theorem dX18_orders__93 : decode cX18_orders_ 93 = .ok (.iadd, 1) := by decide +kernel
theorem dX18_orders__94 : decode cX18_orders_ 94 = .ok (.iload_n 3, 1) := by decide +kernel
theorem dX18_orders__95 : decode cX18_orders_ 95 = .ok (.ifCond .ne 7, 3) := by decide +kernel
theorem dX18_orders__98 : decode cX18_orders_ 98 = .ok (.iconst 1, 1) := by decide +kernel
theorem dX18_orders__99 : decode cX18_orders_ 99 = .ok (.goto 4, 3) := by decide +kernel
theorem dX18_orders__102 : decode cX18_orders_ 102 = .ok (.iconst 0, 1) := by decide +kernel
theorem dX18_orders__103 : decode cX18_orders_ 103 = .ok (.bastore, 1) := by decide +kernel
theorem dX18_orders__104 : decode cX18_orders_ 104 = .ok (.aload_n 0, 1) := by decide +kernel
theorem dX18_orders__105 : decode cX18_orders_ 105 = .ok (.getfield 76, 3) := by decide +kernel
theorem dX18_orders__108 : decode cX18_orders_ 108 = .ok (.iconst 2, 1) := by decide +kernel
theorem dX18_orders__109 : decode cX18_orders_ 109 = .ok (.iload_n 1, 1) := by decide +kernel
theorem dX18_orders__110 : decode cX18_orders_ 110 = .ok (.imul, 1) := by decide +kernel
theorem dX18_orders__111 : decode cX18_orders_ 111 = .ok (.iload_n 2, 1) := by decide +kernel
theorem dX18_orders__112 : decode cX18_orders_ 112 = .ok (.iadd, 1) := by decide +kernel
theorem dX18_orders__113 : decode cX18_orders_ 113 = .ok (.iload_n 3, 1) := by decide +kernel
theorem dX18_orders__114 : decode cX18_orders_ 114 = .ok (.bastore, 1) := by decide +kernel
theorem dX18_orders__115 : decode cX18_orders_ 115 = .ok (.aload_n 0, 1) := by decide +kernel
theorem dX18_orders__116 : decode cX18_orders_ 116 = .ok (.getfield 79, 3) := by decide +kernel
theorem dX18_orders__119 : decode cX18_orders_ 119 = .ok (.iconst 2, 1) := by decide +kernel
theorem dX18_orders__120 : decode cX18_orders_ 120 = .ok (.iload_n 1, 1) := by decide +kernel
theorem dX18_orders__121 : decode cX18_orders_ 121 = .ok (.imul, 1) := by decide +kernel
theorem dX18_orders__122 : decode cX18_orders_ 122 = .ok (.iload_n 2, 1) := by decide +kernel
theorem dX18_orders__123 : decode cX18_orders_ 123 = .ok (.iadd, 1) := by decide +kernel
theorem dX18_orders__124 : decode cX18_orders_ 124 = .ok (.iconst 0, 1) := by decide +kernel
theorem dX18_orders__125 : decode cX18_orders_ 125 = .ok (.bastore, 1) := by decide +kernel
theorem dX18_orders__126 : decode cX18_orders_ 126 = .ok (.aload_n 0, 1) := by decide +kernel
theorem dX18_orders__127 : decode cX18_orders_ 127 = .ok (.getfield 82, 3) := by decide +kernel
theorem dX18_orders__130 : decode cX18_orders_ 130 = .ok (.iconst 2, 1) := by decide +kernel
theorem dX18_orders__131 : decode cX18_orders_ 131 = .ok (.iload_n 1, 1) := by decide +kernel
theorem dX18_orders__132 : decode cX18_orders_ 132 = .ok (.imul, 1) := by decide +kernel
theorem dX18_orders__133 : decode cX18_orders_ 133 = .ok (.iload_n 2, 1) := by decide +kernel
theorem dX18_orders__134 : decode cX18_orders_ 134 = .ok (.iadd, 1) := by decide +kernel
theorem dX18_orders__135 : decode cX18_orders_ 135 = .ok (.iconst 0, 1) := by decide +kernel
theorem dX18_orders__136 : decode cX18_orders_ 136 = .ok (.bastore, 1) := by decide +kernel
theorem dX18_orders__137 : decode cX18_orders_ 137 = .ok (.aload_n 0, 1) := by decide +kernel
theorem dX18_orders__138 : decode cX18_orders_ 138 = .ok (.getfield 85, 3) := by decide +kernel
theorem dX18_orders__141 : decode cX18_orders_ 141 = .ok (.iconst 2, 1) := by decide +kernel
theorem dX18_orders__142 : decode cX18_orders_ 142 = .ok (.iload_n 1, 1) := by decide +kernel
theorem dX18_orders__143 : decode cX18_orders_ 143 = .ok (.imul, 1) := by decide +kernel
theorem dX18_orders__144 : decode cX18_orders_ 144 = .ok (.iload_n 2, 1) := by decide +kernel
theorem dX18_orders__145 : decode cX18_orders_ 145 = .ok (.iadd, 1) := by decide +kernel
theorem dX18_orders__146 : decode cX18_orders_ 146 = .ok (.aload_n 0, 1) := by decide +kernel
theorem dX18_orders__147 : decode cX18_orders_ 147 = .ok (.iload_n 1, 1) := by decide +kernel
theorem dX18_orders__148 : decode cX18_orders_ 148 = .ok (.iload_n 2, 1) := by decide +kernel
theorem dX18_orders__149 : decode cX18_orders_ 149 = .ok (.invokevirtual 224, 3) := by decide +kernel
theorem dX18_orders__152 : decode cX18_orders_ 152 = .ok (.iastore, 1) := by decide +kernel
theorem dX18_orders__153 : decode cX18_orders_ 153 = .ok (.iinc 2 1, 3) := by decide +kernel
theorem dX18_orders__156 : decode cX18_orders_ 156 = .ok (.goto (-144), 3) := by decide +kernel
theorem dX18_orders__159 : decode cX18_orders_ 159 = .ok (.iinc 1 1, 3) := by decide +kernel
theorem dX18_orders__162 : decode cX18_orders_ 162 = .ok (.goto (-160), 3) := by decide +kernel
theorem dX18_orders__165 : decode cX18_orders_ 165 = .ok (.return_, 1) := by decide +kernel
set_option maxRecDepth 20000 in
theorem ggX18_compile_X18_fails : GoodIn wsX18_compile wsX18_fails := goodIn_r _ [13, 1, 95, 96, 97, 98, 99, 100, 101, 102, 103, 104, 105, 106, 107, 108, 109, 110, 111, 112, 113, 114, 115, 116, 117, 118, 119, 120, 121, 122, 123, 124, 125, 126, 127, 128, 129, 130, 131, 132, 133, 134, 135, 136, 137, 138, 139, 140, 141, 142, 143, 144, 145, 146, 147, 148, 149, 150, 151, 152, 153, 154, 155, 156, 157, 158, 159, 160, 161, 162, 163, 164] (by decide +kernel) (by decide +kernel)
set_option maxRecDepth 20000 in
theorem gX18_compile_X18_fails : GoodIn wsX18_compile (wsV RX18 141 RX18 yX18_fails wsX18_fails) := goodIn_app (goodIn_of _ (by decide +kernel)) ggX18_compile_X18_fails
set_option maxRecDepth 20000 in
theorem ggX18_compile_X18_orders_ : GoodIn wsX18_compile wsX18_orders_ := goodIn_ca (goodIn_r _ [17, 7, 6, 18, 19, 20, 8, 21, 22, 23, 24, 25, 26, 12, 27, 28, 29, 30, 31, 32, 33, 34, 35, 36, 37, 38, 39, 40, 41, 42, 43, 44, 45, 46, 47, 48, 49, 50, 51, 52, 53, 54, 55, 56, 57, 58, 95, 96, 97, 98, 99, 100, 101, 102, 103, 104, 105, 106, 107, 108, 109, 110, 111, 112, 113, 114, 115, 116, 117, 118, 119, 120, 121, 122, 123, 124, 125, 126, 127, 128, 129, 130, 131, 132, 133, 134, 135, 136, 137, 138, 139, 140, 141, 142, 143, 144, 145, 146, 147, 148, 149, 150, 151, 152, 153, 154, 155, 156, 157, 158, 159, 160, 161, 162, 163, 164] (by decide +kernel) (by decide +kernel)) (goodIn_sub (fun _ h => List.mem_cons_of_mem _ (List.mem_append_right _ h)) (by decide +kernel))
set_option maxRecDepth 20000 in
theorem gX18_compile_X18_orders_ : GoodIn wsX18_compile (wsV RX18 237 RX18 yX18_orders_ wsX18_orders_) := goodIn_app (goodIn_of _ (by decide +kernel)) ggX18_compile_X18_orders_
theorem dX18_compile_0 : decode cX18_compile 0 = .ok (.aload_n 0, 1) := by decide +kernel
theorem dX18_compile_1 : decode cX18_compile 1 = .ok (.iconst 0, 1) := by decide +kernel
theorem dX18_compile_2 : decode cX18_compile 2 = .ok (.putfield 130, 3) := by decide +kernel
theorem dX18_compile_5 : decode cX18_compile 5 = .ok (.aload_n 0, 1) := by decide +kernel
theorem dX18_compile_6 : decode cX18_compile 6 = .ok (.getfield 137, 3) := by decide +kernel
theorem dX18_compile_9 : decode cX18_compile 9 = .ok (.ifCond .eq 9, 3) := by decide +kernel
theorem dX18_compile_12 : decode cX18_compile 12 = .ok (.aload_n 0, 1) := by decide +kernel
theorem dX18_compile_13 : decode cX18_compile 13 = .ok (.iconst 1, 1) := by decide +kernel
theorem dX18_compile_14 : decode cX18_compile 14 = .ok (.invokevirtual 141, 3) := by decide +kernel
theorem dX18_compile_17 : decode cX18_compile 17 = .ok (.ireturn, 1) := by decide +kernel
theorem dX18_compile_18 : decode cX18_compile 18 = .ok (.aload_n 0, 1) := by decide +kernel
theorem dX18_compile_19 : decode cX18_compile 19 = .ok (.iconst 1, 1) := by decide +kernel
theorem dX18_compile_20 : decode cX18_compile 20 = .ok (.putfield 137, 3) := by decide +kernel
theorem dX18_compile_23 : decode cX18_compile 23 = .ok (.aload_n 0, 1) := by decide +kernel
theorem dX18_compile_24 : decode cX18_compile 24 = .ok (.iconst 0, 1) := by decide +kernel
theorem dX18_compile_25 : decode cX18_compile 25 = .ok (.putfield 227, 3) := by decide +kernel
theorem dX18_compile_28 : decode cX18_compile 28 = .ok (.aload_n 0, 1) := by decide +kernel
theorem dX18_compile_29 : decode cX18_compile 29 = .ok (.lconst 0, 1) := by decide +kernel
theorem dX18_compile_30 : decode cX18_compile 30 = .ok (.putfield 230, 3) := by decide +kernel
theorem dX18_compile_33 : decode cX18_compile 33 = .ok (.aload_n 0, 1) := by decide +kernel
theorem dX18_compile_34 : decode cX18_compile 34 = .ok (.iconst 0, 1) := by decide +kernel
theorem dX18_compile_35 : decode cX18_compile 35 = .ok (.putfield 234, 3) := by decide +kernel
theorem dX18_compile_38 : decode cX18_compile 38 = .ok (.aload_n 0, 1) := by decide +kernel
theorem dX18_compile_39 : decode cX18_compile 39 = .ok (.invokevirtual 237, 3) := by decide +kernel
theorem dX18_compile_42 : decode cX18_compile 42 = .ok (.iconst 1, 1) := by decide +kernel
theorem dX18_compile_43 : decode cX18_compile 43 = .ok (.istore_n 1, 1) := by decide +kernel
theorem dX18_compile_44 : decode cX18_compile 44 = .ok (.iload_n 1, 1) := by decide +kernel
theorem dX18_compile_45 : decode cX18_compile 45 = .ok (.ifCond .eq 87, 3) := by decide +kernel
theorem dX18_compile_48 : decode cX18_compile 48 = .ok (.iconst 0, 1) := by decide +kernel
theorem dX18_compile_49 : decode cX18_compile 49 = .ok (.istore_n 1, 1) := by decide +kernel
theorem dX18_compile_50 : decode cX18_compile 50 = .ok (.iconst 0, 1) := by decide +kernel
theorem dX18_compile_51 : decode cX18_compile 51 = .ok (.istore_n 2, 1) := by decide +kernel
theorem dX18_compile_52 : decode cX18_compile 52 = .ok (.iload_n 2, 1) := by decide +kernel
theorem dX18_compile_53 : decode cX18_compile 53 = .ok (.bipush 10, 2) := by decide +kernel
theorem dX18_compile_55 : decode cX18_compile 55 = .ok (.if_icmp .ge 74, 3) := by decide +kernel
theorem dX18_compile_58 : decode cX18_compile 58 = .ok (.iload_n 2, 1) := by decide +kernel
theorem dX18_compile_59 : decode cX18_compile 59 = .ok (.iconst 2, 1) := by decide +kernel
theorem dX18_compile_60 : decode cX18_compile 60 = .ok (.irem, 1) := by decide +kernel
theorem dX18_compile_61 : decode cX18_compile 61 = .ok (.aload_n 0, 1) := by decide +kernel
theorem dX18_compile_62 : decode cX18_compile 62 = .ok (.getfield 32, 3) := by decide +kernel
theorem dX18_compile_65 : decode cX18_compile 65 = .ok (.iload_n 2, 1) := by decide +kernel
theorem dX18_compile_66 : decode cX18_compile 66 = .ok (.iconst 2, 1) := by decide +kernel
theorem dX18_compile_67 : decode cX18_compile 67 = .ok (.idiv, 1) := by decide +kernel
theorem dX18_compile_68 : decode cX18_compile 68 = .ok (.iaload, 1) := by decide +kernel
theorem dX18_compile_69 : decode cX18_compile 69 = .ok (.if_icmp .ge 17, 3) := by decide +kernel
theorem dX18_compile_72 : decode cX18_compile 72 = .ok (.iload_n 2, 1) := by decide +kernel
theorem dX18_compile_73 : decode cX18_compile 73 = .ok (.iconst 2, 1) := by decide +kernel
theorem dX18_compile_74 : decode cX18_compile 74 = .ok (.idiv, 1) := by decide +kernel
theorem dX18_compile_75 : decode cX18_compile 75 = .ok (.aload_n 0, 1) := by decide +kernel
theorem dX18_compile_76 : decode cX18_compile 76 = .ok (.getfield 169, 3) := by decide +kernel
theorem dX18_compile_79 : decode cX18_compile 79 = .ok (.if_icmp .ge 7, 3) := by decide +kernel
theorem dX18_compile_82 : decode cX18_compile 82 = .ok (.iconst 1, 1) := by decide +kernel
theorem dX18_compile_83 : decode cX18_compile 83 = .ok (.goto 4, 3) := by decide +kernel
theorem dX18_compile_86 : decode cX18_compile 86 = .ok (.iconst 0, 1) := by decide +kernel
theorem dX18_compile_87 : decode cX18_compile 87 = .ok (.istore_n 3, 1) := by decide +kernel
theorem dX18_compile_88 : decode cX18_compile 88 = .ok (.iload_n 3, 1) := by decide +kernel
theorem dX18_compile_89 : decode cX18_compile 89 = .ok (.ifCond .eq 34, 3) := by decide +kernel
theorem dX18_compile_92 : decode cX18_compile 92 = .ok (.aload_n 0, 1) := by decide +kernel
theorem dX18_compile_93 : decode cX18_compile 93 = .ok (.getfield 76, 3) := by decide +kernel
theorem dX18_compile_96 : decode cX18_compile 96 = .ok (.iload_n 2, 1) := by decide +kernel
theorem dX18_compile_97 : decode cX18_compile 97 = .ok (.baload, 1) := by decide +kernel
theorem dX18_compile_98 : decode cX18_compile 98 = .ok (.ifCond .eq 25, 3) := by decide +kernel
theorem dX18_compile_101 : decode cX18_compile 101 = .ok (.aload_n 0, 1) := by decide +kernel
theorem dX18_compile_102 : decode cX18_compile 102 = .ok (.iload_n 2, 1) := by decide +kernel
theorem dX18_compile_103 : decode cX18_compile 103 = .ok (.iconst 2, 1) := by decide +kernel
theorem dX18_compile_104 : decode cX18_compile 104 = .ok (.idiv, 1) := by decide +kernel
theorem dX18_compile_105 : decode cX18_compile 105 = .ok (.iload_n 2, 1) := by decide +kernel
theorem dX18_compile_106 : decode cX18_compile 106 = .ok (.iconst 2, 1) := by decide +kernel
theorem dX18_compile_107 : decode cX18_compile 107 = .ok (.irem, 1) := by decide +kernel
theorem dX18_compile_108 : decode cX18_compile 108 = .ok (.invokevirtual 239, 3) := by decide +kernel
theorem dX18_compile_111 : decode cX18_compile 111 = .ok (.ifCond .eq 12, 3) := by decide +kernel
theorem dX18_compile_114 : decode cX18_compile 114 = .ok (.aload_n 0, 1) := by decide +kernel
theorem dX18_compile_115 : decode cX18_compile 115 = .ok (.getfield 76, 3) := by decide +kernel
theorem dX18_compile_118 : decode cX18_compile 118 = .ok (.iload_n 2, 1) := by decide +kernel
theorem dX18_compile_119 : decode cX18_compile 119 = .ok (.iconst 0, 1) := by decide +kernel
theorem dX18_compile_120 : decode cX18_compile 120 = .ok (.bastore, 1) := by decide +kernel
theorem dX18_compile_121 : decode cX18_compile 121 = .ok (.iconst 1, 1) := by decide +kernel
theorem dX18_compile_122 : decode cX18_compile 122 = .ok (.istore_n 1, 1) := by decide +kernel
theorem dX18_compile_123 : decode cX18_compile 123 = .ok (.iinc 2 1, 3) := by decide +kernel
theorem dX18_compile_126 : decode cX18_compile 126 = .ok (.goto (-74), 3) := by decide +kernel
theorem dX18_compile_129 : decode cX18_compile 129 = .ok (.goto (-85), 3) := by decide +kernel
theorem dX18_compile_132 : decode cX18_compile 132 = .ok (.iconst 1, 1) := by decide +kernel
theorem dX18_compile_133 : decode cX18_compile 133 = .ok (.istore_n 1, 1) := by decide +kernel
theorem dX18_compile_134 : decode cX18_compile 134 = .ok (.iload_n 1, 1) := by decide +kernel
theorem dX18_compile_135 : decode cX18_compile 135 = .ok (.ifCond .eq 88, 3) := by decide +kernel
theorem dX18_compile_138 : decode cX18_compile 138 = .ok (.iconst 0, 1) := by decide +kernel
theorem dX18_compile_139 : decode cX18_compile 139 = .ok (.istore_n 1, 1) := by decide +kernel
theorem dX18_compile_140 : decode cX18_compile 140 = .ok (.iconst 0, 1) := by decide +kernel
theorem dX18_compile_141 : decode cX18_compile 141 = .ok (.istore_n 2, 1) := by decide +kernel
theorem dX18_compile_142 : decode cX18_compile 142 = .ok (.iload_n 2, 1) := by decide +kernel
theorem dX18_compile_143 : decode cX18_compile 143 = .ok (.bipush 10, 2) := by decide +kernel
theorem dX18_compile_145 : decode cX18_compile 145 = .ok (.if_icmp .ge 75, 3) := by decide +kernel
theorem dX18_compile_148 : decode cX18_compile 148 = .ok (.iload_n 2, 1) := by decide +kernel
theorem dX18_compile_149 : decode cX18_compile 149 = .ok (.iconst 2, 1) := by decide +kernel
theorem dX18_compile_150 : decode cX18_compile 150 = .ok (.irem, 1) := by decide +kernel
theorem dX18_compile_151 : decode cX18_compile 151 = .ok (.aload_n 0, 1) := by decide +kernel
theorem dX18_compile_152 : decode cX18_compile 152 = .ok (.getfield 32, 3) := by decide +kernel
theorem dX18_compile_155 : decode cX18_compile 155 = .ok (.iload_n 2, 1) := by decide +kernel
theorem dX18_compile_156 : decode cX18_compile 156 = .ok (.iconst 2, 1) := by decide +kernel
theorem dX18_compile_157 : decode cX18_compile 157 = .ok (.idiv, 1) := by decide +kernel
theorem dX18_compile_158 : decode cX18_compile 158 = .ok (.iaload, 1) := by decide +kernel
theorem dX18_compile_159 : decode cX18_compile 159 = .ok (.if_icmp .ge 26, 3) := by decide +kernel
theorem dX18_compile_162 : decode cX18_compile 162 = .ok (.iload_n 2, 1) := by decide +kernel
theorem dX18_compile_163 : decode cX18_compile 163 = .ok (.iconst 2, 1) := by decide +kernel
theorem dX18_compile_164 : decode cX18_compile 164 = .ok (.idiv, 1) := by decide +kernel
theorem dX18_compile_165 : decode cX18_compile 165 = .ok (.aload_n 0, 1) := by decide +kernel
theorem dX18_compile_166 : decode cX18_compile 166 = .ok (.getfield 169, 3) := by decide +kernel
theorem dX18_compile_169 : decode cX18_compile 169 = .ok (.if_icmp .ge 16, 3) := by decide +kernel
theorem dX18_compile_172 : decode cX18_compile 172 = .ok (.aload_n 0, 1) := by decide +kernel
theorem dX18_compile_173 : decode cX18_compile 173 = .ok (.getfield 76, 3) := by decide +kernel
theorem dX18_compile_176 : decode cX18_compile 176 = .ok (.iload_n 2, 1) := by decide +kernel
theorem dX18_compile_177 : decode cX18_compile 177 = .ok (.baload, 1) := by decide +kernel
theorem dX18_compile_178 : decode cX18_compile 178 = .ok (.ifCond .eq 7, 3) := by decide +kernel
theorem dX18_compile_181 : decode cX18_compile 181 = .ok (.iconst 1, 1) := by decide +kernel
theorem dX18_compile_182 : decode cX18_compile 182 = .ok (.goto 4, 3) := by decide +kernel
theorem dX18_compile_185 : decode cX18_compile 185 = .ok (.iconst 0, 1) := by decide +kernel
theorem dX18_compile_186 : decode cX18_compile 186 = .ok (.istore_n 3, 1) := by decide +kernel
theorem dX18_compile_187 : decode cX18_compile 187 = .ok (.iload_n 3, 1) := by decide +kernel
theorem dX18_compile_188 : decode cX18_compile 188 = .ok (.ifCond .eq 16, 3) := by decide +kernel
theorem dX18_compile_191 : decode cX18_compile 191 = .ok (.aload_n 0, 1) := by decide +kernel
theorem dX18_compile_192 : decode cX18_compile 192 = .ok (.iload_n 2, 1) := by decide +kernel
theorem dX18_compile_193 : decode cX18_compile 193 = .ok (.iconst 2, 1) := by decide +kernel
theorem dX18_compile_194 : decode cX18_compile 194 = .ok (.idiv, 1) := by decide +kernel
theorem dX18_compile_195 : decode cX18_compile 195 = .ok (.iload_n 2, 1) := by decide +kernel
theorem dX18_compile_196 : decode cX18_compile 196 = .ok (.iconst 2, 1) := by decide +kernel
theorem dX18_compile_197 : decode cX18_compile 197 = .ok (.irem, 1) := by decide +kernel
theorem dX18_compile_198 : decode cX18_compile 198 = .ok (.invokevirtual 242, 3) := by decide +kernel
theorem dX18_compile_201 : decode cX18_compile 201 = .ok (.ifCond .ne 7, 3) := by decide +kernel
theorem dX18_compile_204 : decode cX18_compile 204 = .ok (.iload_n 1, 1) := by decide +kernel
theorem dX18_compile_205 : decode cX18_compile 205 = .ok (.ifCond .eq 7, 3) := by decide +kernel
theorem dX18_compile_208 : decode cX18_compile 208 = .ok (.iconst 1, 1) := by decide +kernel
theorem dX18_compile_209 : decode cX18_compile 209 = .ok (.goto 4, 3) := by decide +kernel
theorem dX18_compile_212 : decode cX18_compile 212 = .ok (.iconst 0, 1) := by decide +kernel
theorem dX18_compile_213 : decode cX18_compile 213 = .ok (.istore_n 1, 1) := by decide +kernel
theorem dX18_compile_214 : decode cX18_compile 214 = .ok (.iinc 2 1, 3) := by decide +kernel
theorem dX18_compile_217 : decode cX18_compile 217 = .ok (.goto (-75), 3) := by decide +kernel
theorem dX18_compile_220 : decode cX18_compile 220 = .ok (.goto (-86), 3) := by decide +kernel
theorem dX18_compile_223 : decode cX18_compile 223 = .ok (.iconst 0, 1) := by decide +kernel
theorem dX18_compile_224 : decode cX18_compile 224 = .ok (.istore_n 2, 1) := by decide +kernel
theorem dX18_compile_225 : decode cX18_compile 225 = .ok (.iconst 0, 1) := by decide +kernel
theorem dX18_compile_226 : decode cX18_compile 226 = .ok (.istore_n 3, 1) := by decide +kernel
theorem dX18_compile_227 : decode cX18_compile 227 = .ok (.iload_n 3, 1) := by decide +kernel
theorem dX18_compile_228 : decode cX18_compile 228 = .ok (.bipush 10, 2) := by decide +kernel
theorem dX18_compile_230 : decode cX18_compile 230 = .ok (.if_icmp .ge 51, 3) := by decide +kernel
theorem dX18_compile_233 : decode cX18_compile 233 = .ok (.iload_n 2, 1) := by decide +kernel
theorem dX18_compile_234 : decode cX18_compile 234 = .ok (.iload_n 3, 1) := by decide +kernel
theorem dX18_compile_235 : decode cX18_compile 235 = .ok (.iconst 2, 1) := by decide +kernel
theorem dX18_compile_236 : decode cX18_compile 236 = .ok (.idiv, 1) := by decide +kernel
theorem dX18_compile_237 : decode cX18_compile 237 = .ok (.aload_n 0, 1) := by decide +kernel
theorem dX18_compile_238 : decode cX18_compile 238 = .ok (.getfield 169, 3) := by decide +kernel
theorem dX18_compile_241 : decode cX18_compile 241 = .ok (.if_icmp .ge 31, 3) := by decide +kernel
theorem dX18_compile_244 : decode cX18_compile 244 = .ok (.iload_n 3, 1) := by decide +kernel
theorem dX18_compile_245 : decode cX18_compile 245 = .ok (.iconst 2, 1) := by decide +kernel
theorem dX18_compile_246 : decode cX18_compile 246 = .ok (.irem, 1) := by decide +kernel
theorem dX18_compile_247 : decode cX18_compile 247 = .ok (.aload_n 0, 1) := by decide +kernel
theorem dX18_compile_248 : decode cX18_compile 248 = .ok (.getfield 32, 3) := by decide +kernel
theorem dX18_compile_251 : decode cX18_compile 251 = .ok (.iload_n 3, 1) := by decide +kernel
theorem dX18_compile_252 : decode cX18_compile 252 = .ok (.iconst 2, 1) := by decide +kernel
theorem dX18_compile_253 : decode cX18_compile 253 = .ok (.idiv, 1) := by decide +kernel
theorem dX18_compile_254 : decode cX18_compile 254 = .ok (.iaload, 1) := by decide +kernel
theorem dX18_compile_255 : decode cX18_compile 255 = .ok (.if_icmp .ge 17, 3) := by decide +kernel
theorem dX18_compile_258 : decode cX18_compile 258 = .ok (.aload_n 0, 1) := by decide +kernel
theorem dX18_compile_259 : decode cX18_compile 259 = .ok (.iload_n 3, 1) := by decide +kernel
theorem dX18_compile_260 : decode cX18_compile 260 = .ok (.invokevirtual 245, 3) := by decide +kernel
theorem dX18_compile_263 : decode cX18_compile 263 = .ok (.bipush 45, 2) := by decide +kernel
theorem dX18_compile_265 : decode cX18_compile 265 = .ok (.if_icmp .eq 7, 3) := by decide +kernel
theorem dX18_compile_268 : decode cX18_compile 268 = .ok (.iconst 1, 1) := by decide +kernel
theorem dX18_compile_269 : decode cX18_compile 269 = .ok (.goto 4, 3) := by decide +kernel
theorem dX18_compile_272 : decode cX18_compile 272 = .ok (.iconst 0, 1) := by decide +kernel
theorem dX18_compile_273 : decode cX18_compile 273 = .ok (.iadd, 1) := by decide +kernel
theorem dX18_compile_274 : decode cX18_compile 274 = .ok (.istore_n 2, 1) := by decide +kernel
theorem dX18_compile_275 : decode cX18_compile 275 = .ok (.iinc 3 1, 3) := by decide +kernel
theorem dX18_compile_278 : decode cX18_compile 278 = .ok (.goto (-51), 3) := by decide +kernel
theorem dX18_compile_281 : decode cX18_compile 281 = .ok (.iload_n 2, 1) := by decide +kernel
theorem dX18_compile_282 : decode cX18_compile 282 = .ok (.ireturn, 1) := by decide +kernel
set_option maxRecDepth 20000 in
theorem ggX18_open_X18_fails : GoodIn wsX18_open wsX18_fails := goodIn_r _ [10, 1, 11, 12, 13, 14, 15, 16, 17, 18, 19, 20, 21, 22, 23, 24, 25, 26, 27, 28, 29, 30, 31, 32, 33, 34, 35, 36, 37, 38, 39, 40, 41, 42, 43, 44, 45, 46, 47, 48, 49, 50, 51, 52, 53, 54, 55, 56, 57, 58, 59, 60, 61, 62, 63, 64, 65, 66, 67, 68, 69, 70, 71, 72, 73, 74, 75, 76, 77, 78, 79, 80] (by decide +kernel) (by decide +kernel)
set_option maxRecDepth 20000 in
theorem gX18_open_X18_fails : GoodIn wsX18_open (wsV RX18 141 RX18 yX18_fails wsX18_fails) := goodIn_app (goodIn_of _ (by decide +kernel)) ggX18_open_X18_fails
theorem dX18_open_0 : decode cX18_open 0 = .ok (.aload_n 0, 1) := by decide +kernel
theorem dX18_open_1 : decode cX18_open 1 = .ok (.iconst 0, 1) := by decide +kernel
theorem dX18_open_2 : decode cX18_open 2 = .ok (.putfield 130, 3) := by decide +kernel
theorem dX18_open_5 : decode cX18_open 5 = .ok (.aload_n 0, 1) := by decide +kernel
theorem dX18_open_6 : decode cX18_open 6 = .ok (.getfield 137, 3) := by decide +kernel
theorem dX18_open_9 : decode cX18_open 9 = .ok (.ifCond .ne 9, 3) := by decide +kernel
theorem dX18_open_12 : decode cX18_open 12 = .ok (.aload_n 0, 1) := by decide +kernel
theorem dX18_open_13 : decode cX18_open 13 = .ok (.iconst 1, 1) := by decide +kernel
theorem dX18_open_14 : decode cX18_open 14 = .ok (.invokevirtual 141, 3) := by decide +kernel
theorem dX18_open_17 : decode cX18_open 17 = .ok (.ireturn, 1) := by decide +kernel
theorem dX18_open_18 : decode cX18_open 18 = .ok (.aload_n 0, 1) := by decide +kernel
theorem dX18_open_19 : decode cX18_open 19 = .ok (.iconst 0, 1) := by decide +kernel
theorem dX18_open_20 : decode cX18_open 20 = .ok (.putfield 137, 3) := by decide +kernel
theorem dX18_open_23 : decode cX18_open 23 = .ok (.aload_n 0, 1) := by decide +kernel
theorem dX18_open_24 : decode cX18_open 24 = .ok (.iconst 0, 1) := by decide +kernel
theorem dX18_open_25 : decode cX18_open 25 = .ok (.putfield 234, 3) := by decide +kernel
theorem dX18_open_28 : decode cX18_open 28 = .ok (.aload_n 0, 1) := by decide +kernel
theorem dX18_open_29 : decode cX18_open 29 = .ok (.getfield 227, 3) := by decide +kernel
theorem dX18_open_32 : decode cX18_open 32 = .ok (.istore_n 1, 1) := by decide +kernel
theorem dX18_open_33 : decode cX18_open 33 = .ok (.aload_n 0, 1) := by decide +kernel
theorem dX18_open_34 : decode cX18_open 34 = .ok (.iconst 0, 1) := by decide +kernel
theorem dX18_open_35 : decode cX18_open 35 = .ok (.putfield 227, 3) := by decide +kernel
theorem dX18_open_38 : decode cX18_open 38 = .ok (.aload_n 0, 1) := by decide +kernel
theorem dX18_open_39 : decode cX18_open 39 = .ok (.lconst 0, 1) := by decide +kernel
theorem dX18_open_40 : decode cX18_open 40 = .ok (.putfield 230, 3) := by decide +kernel
theorem dX18_open_43 : decode cX18_open 43 = .ok (.iload_n 1, 1) := by decide +kernel
theorem dX18_open_44 : decode cX18_open 44 = .ok (.ireturn, 1) := by decide +kernel
set_option maxRecDepth 20000 in
theorem ggX18_looks_X18_isPredicate : GoodIn wsX18_looks wsX18_isPredicate := goodIn_r _ [8, 9, 10, 11, 7, 12, 13, 14, 15, 16, 17, 18, 19, 20, 21, 22, 23, 24, 25, 26, 27, 28, 29, 30, 31, 32, 33, 34, 35, 36, 37, 38, 39, 40, 41, 42, 43, 44, 45, 46, 47, 48, 49, 50, 51, 52, 53, 54, 55, 56, 57, 58, 59, 60, 61, 62, 63, 64, 65, 66, 67, 68, 69, 70, 71, 72, 73, 74, 75, 76, 77, 78, 79, 80, 81, 82] (by decide +kernel) (by decide +kernel)
set_option maxRecDepth 20000 in
theorem gX18_looks_X18_isPredicate : GoodIn wsX18_looks (wsV RX18 172 RX18 yX18_isPredicate wsX18_isPredicate) := goodIn_app (goodIn_of _ (by decide +kernel)) ggX18_looks_X18_isPredicate
set_option maxRecDepth 20000 in
theorem ggX18_looks_X18_in : GoodIn wsX18_looks wsX18_in := goodIn_r _ [12] (by decide +kernel) (by decide +kernel)
set_option maxRecDepth 20000 in
theorem gX18_looks_X18_in : GoodIn wsX18_looks (va_wsS RX18 145 yX18_in wsX18_in) := goodIn_app (goodIn_of _ (by decide +kernel)) ggX18_looks_X18_in
theorem dX18_looks_0 : decode cX18_looks 0 = .ok (.aload_n 0, 1) := by decide +kernel
theorem dX18_looks_1 : decode cX18_looks 1 = .ok (.aload_n 0, 1) := by decide +kernel
theorem dX18_looks_2 : decode cX18_looks 2 = .ok (.iload_n 1, 1) := by decide +kernel
theorem dX18_looks_3 : decode cX18_looks 3 = .ok (.invokevirtual 172, 3) := by decide +kernel
theorem dX18_looks_6 : decode cX18_looks 6 = .ok (.ifCond .eq 19, 3) := by decide +kernel
theorem dX18_looks_9 : decode cX18_looks 9 = .ok (.iload_n 2, 1) := by decide +kernel
theorem dX18_looks_10 : decode cX18_looks 10 = .ok (.iconst 0, 1) := by decide +kernel
theorem dX18_looks_11 : decode cX18_looks 11 = .ok (.aload_n 0, 1) := by decide +kernel
theorem dX18_looks_12 : decode cX18_looks 12 = .ok (.getfield 32, 3) := by decide +kernel
theorem dX18_looks_15 : decode cX18_looks 15 = .ok (.iload_n 1, 1) := by decide +kernel
theorem dX18_looks_16 : decode cX18_looks 16 = .ok (.iaload, 1) := by decide +kernel
theorem dX18_looks_17 : decode cX18_looks 17 = .ok (.iconst 1, 1) := by decide +kernel
theorem dX18_looks_18 : decode cX18_looks 18 = .ok (.isub, 1) := by decide +kernel
theorem dX18_looks_19 : decode cX18_looks 19 = .ok (.invokestatic 145, 3) := by decide +kernel
theorem dX18_looks_22 : decode cX18_looks 22 = .ok (.ifCond .ne 7, 3) := by decide +kernel
theorem dX18_looks_25 : decode cX18_looks 25 = .ok (.iconst 1, 1) := by decide +kernel
theorem dX18_looks_26 : decode cX18_looks 26 = .ok (.goto 15, 3) := by decide +kernel
theorem dX18_looks_29 : decode cX18_looks 29 = .ok (.aload_n 0, 1) := by decide +kernel
theorem dX18_looks_30 : decode cX18_looks 30 = .ok (.getfield 137, 3) := by decide +kernel
theorem dX18_looks_33 : decode cX18_looks 33 = .ok (.ifCond .ne 7, 3) := by decide +kernel
theorem dX18_looks_36 : decode cX18_looks 36 = .ok (.iconst 2, 1) := by decide +kernel
theorem dX18_looks_37 : decode cX18_looks 37 = .ok (.goto 4, 3) := by decide +kernel
theorem dX18_looks_40 : decode cX18_looks 40 = .ok (.iconst 0, 1) := by decide +kernel
theorem dX18_looks_41 : decode cX18_looks 41 = .ok (.putfield 130, 3) := by decide +kernel
theorem dX18_looks_44 : decode cX18_looks 44 = .ok (.aload_n 0, 1) := by decide +kernel
theorem dX18_looks_45 : decode cX18_looks 45 = .ok (.getfield 130, 3) := by decide +kernel
theorem dX18_looks_48 : decode cX18_looks 48 = .ok (.ifCond .ne 7, 3) := by decide +kernel
theorem dX18_looks_51 : decode cX18_looks 51 = .ok (.iconst 1, 1) := by decide +kernel
theorem dX18_looks_52 : decode cX18_looks 52 = .ok (.goto 4, 3) := by decide +kernel
theorem dX18_looks_55 : decode cX18_looks 55 = .ok (.iconst 0, 1) := by decide +kernel
theorem dX18_looks_56 : decode cX18_looks 56 = .ok (.ireturn, 1) := by decide +kernel
set_option maxRecDepth 20000 in
theorem ggX18_fault_X18_looks : GoodIn wsX18_fault wsX18_looks := goodIn_ca (goodIn_r _ [5, 6, 7, 8, 9, 10, 11, 4, 12, 13, 14, 15, 16, 26, 27, 28, 29, 30, 31, 32, 33, 34, 35, 36, 37, 38, 39, 40, 41, 42, 43, 44, 45, 46, 47, 48, 49, 50, 51, 52, 53, 54, 55, 56, 57, 58, 59, 60, 61, 62, 63, 64, 65, 66, 67, 68, 69, 70, 71, 72, 73, 74, 75, 76, 77, 78, 79, 80, 81, 82, 83, 84, 85, 86, 87, 88, 89, 90, 91, 92, 93, 94, 95] (by decide +kernel) (by decide +kernel)) (goodIn_sub (fun _ h => List.mem_cons_of_mem _ (List.mem_append_right _ h)) (by decide +kernel))
set_option maxRecDepth 20000 in
theorem gX18_fault_X18_looks : GoodIn wsX18_fault (wsV RX18 249 RX18 yX18_looks wsX18_looks) := goodIn_app (goodIn_of _ (by decide +kernel)) ggX18_fault_X18_looks
theorem dX18_fault_0 : decode cX18_fault 0 = .ok (.aload_n 0, 1) := by decide +kernel
theorem dX18_fault_1 : decode cX18_fault 1 = .ok (.iload_n 1, 1) := by decide +kernel
theorem dX18_fault_2 : decode cX18_fault 2 = .ok (.iload_n 2, 1) := by decide +kernel
theorem dX18_fault_3 : decode cX18_fault 3 = .ok (.invokevirtual 249, 3) := by decide +kernel
theorem dX18_fault_6 : decode cX18_fault 6 = .ok (.ifCond .eq 15, 3) := by decide +kernel
theorem dX18_fault_9 : decode cX18_fault 9 = .ok (.aload_n 0, 1) := by decide +kernel
theorem dX18_fault_10 : decode cX18_fault 10 = .ok (.iconst 2, 1) := by decide +kernel
theorem dX18_fault_11 : decode cX18_fault 11 = .ok (.iload_n 1, 1) := by decide +kernel
theorem dX18_fault_12 : decode cX18_fault 12 = .ok (.imul, 1) := by decide +kernel
theorem dX18_fault_13 : decode cX18_fault 13 = .ok (.iload_n 2, 1) := by decide +kernel
theorem dX18_fault_14 : decode cX18_fault 14 = .ok (.iadd, 1) := by decide +kernel
theorem dX18_fault_15 : decode cX18_fault 15 = .ok (.invokevirtual 245, 3) := by decide +kernel
theorem dX18_fault_18 : decode cX18_fault 18 = .ok (.goto 4, 3) := by decide +kernel
theorem dX18_fault_21 : decode cX18_fault 21 = .ok (.iconst 0, 1) := by decide +kernel
theorem dX18_fault_22 : decode cX18_fault 22 = .ok (.ireturn, 1) := by decide +kernel
set_option maxRecDepth 20000 in
theorem ggX18_isGood_X18_looks : GoodIn wsX18_isGood wsX18_looks := goodIn_ca (goodIn_r _ [6, 7, 8, 9, 10, 11, 12, 5, 13, 14, 15, 16, 17, 18, 19, 20, 21, 22, 23, 24, 25, 26, 27, 28, 29, 30, 31, 32, 33, 34, 35, 36, 37, 38, 39, 40, 41, 42, 43, 44, 45, 46, 47, 48, 49, 50, 51, 52, 53, 54, 55, 56, 57, 58, 59, 60, 61, 62, 63, 64, 65, 66, 67, 68, 69, 70, 71, 72, 73, 74, 75, 76, 77, 78, 79, 80, 81, 82, 83, 84, 85, 86, 87] (by decide +kernel) (by decide +kernel)) (goodIn_sub (fun _ h => List.mem_cons_of_mem _ (List.mem_append_right _ h)) (by decide +kernel))
set_option maxRecDepth 20000 in
theorem gX18_isGood_X18_looks : GoodIn wsX18_isGood (wsV RX18 249 RX18 yX18_looks wsX18_looks) := goodIn_app (goodIn_of _ (by decide +kernel)) ggX18_isGood_X18_looks
theorem dX18_isGood_0 : decode cX18_isGood 0 = .ok (.aload_n 0, 1) := by decide +kernel
theorem dX18_isGood_1 : decode cX18_isGood 1 = .ok (.iload_n 1, 1) := by decide +kernel
theorem dX18_isGood_2 : decode cX18_isGood 2 = .ok (.iload_n 2, 1) := by decide +kernel
theorem dX18_isGood_3 : decode cX18_isGood 3 = .ok (.invokevirtual 249, 3) := by decide +kernel
theorem dX18_isGood_6 : decode cX18_isGood 6 = .ok (.ifCond .eq 20, 3) := by decide +kernel
theorem dX18_isGood_9 : decode cX18_isGood 9 = .ok (.aload_n 0, 1) := by decide +kernel
theorem dX18_isGood_10 : decode cX18_isGood 10 = .ok (.getfield 76, 3) := by decide +kernel
theorem dX18_isGood_13 : decode cX18_isGood 13 = .ok (.iconst 2, 1) := by decide +kernel
theorem dX18_isGood_14 : decode cX18_isGood 14 = .ok (.iload_n 1, 1) := by decide +kernel
theorem dX18_isGood_15 : decode cX18_isGood 15 = .ok (.imul, 1) := by decide +kernel
theorem dX18_isGood_16 : decode cX18_isGood 16 = .ok (.iload_n 2, 1) := by decide +kernel
theorem dX18_isGood_17 : decode cX18_isGood 17 = .ok (.iadd, 1) := by decide +kernel
theorem dX18_isGood_18 : decode cX18_isGood 18 = .ok (.baload, 1) := by decide +kernel
theorem dX18_isGood_19 : decode cX18_isGood 19 = .ok (.ifCond .eq 7, 3) := by decide +kernel
theorem dX18_isGood_22 : decode cX18_isGood 22 = .ok (.iconst 1, 1) := by decide +kernel
theorem dX18_isGood_23 : decode cX18_isGood 23 = .ok (.goto 4, 3) := by decide +kernel
theorem dX18_isGood_26 : decode cX18_isGood 26 = .ok (.iconst 0, 1) := by decide +kernel
theorem dX18_isGood_27 : decode cX18_isGood 27 = .ok (.ireturn, 1) := by decide +kernel
set_option maxRecDepth 20000 in
theorem ggX18_found_X18_looks : GoodIn wsX18_found wsX18_looks := goodIn_ca (goodIn_r _ [9, 10, 11, 2, 12, 13, 14, 8, 15, 16, 17, 18, 19, 20, 21, 22, 23, 24, 25, 26, 27, 28, 29, 30, 31, 32, 33, 34, 35, 36, 37, 38, 39, 40, 41, 42, 43, 44, 45, 46, 47, 48, 49, 50, 51, 52, 53, 54, 55, 56, 57, 58, 59, 60, 61, 62, 63, 64, 65, 66, 67, 68, 69, 70, 71, 72, 73, 74, 75, 76, 77, 78, 79, 80, 81, 82, 83, 84, 85, 86, 87, 88, 89] (by decide +kernel) (by decide +kernel)) (goodIn_sub (fun _ h => List.mem_cons_of_mem _ (List.mem_append_right _ h)) (by decide +kernel))
set_option maxRecDepth 20000 in
theorem gX18_found_X18_looks : GoodIn wsX18_found (wsV RX18 249 RX18 yX18_looks wsX18_looks) := goodIn_app (goodIn_of _ (by decide +kernel)) ggX18_found_X18_looks
theorem dX18_found_0 : decode cX18_found 0 = .ok (.aload_n 0, 1) := by decide +kernel
theorem dX18_found_1 : decode cX18_found 1 = .ok (.iload_n 1, 1) := by decide +kernel
theorem dX18_found_2 : decode cX18_found 2 = .ok (.iload_n 2, 1) := by decide +kernel
theorem dX18_found_3 : decode cX18_found 3 = .ok (.invokevirtual 249, 3) := by decide +kernel
theorem dX18_found_6 : decode cX18_found 6 = .ok (.ifCond .ne 5, 3) := by decide +kernel
theorem dX18_found_9 : decode cX18_found 9 = .ok (.iconst 0, 1) := by decide +kernel
theorem dX18_found_10 : decode cX18_found 10 = .ok (.ireturn, 1) := by decide +kernel
theorem dX18_found_11 : decode cX18_found 11 = .ok (.iconst 2, 1) := by decide +kernel
theorem dX18_found_12 : decode cX18_found 12 = .ok (.iload_n 1, 1) := by decide +kernel
theorem dX18_found_13 : decode cX18_found 13 = .ok (.imul, 1) := by decide +kernel
theorem dX18_found_14 : decode cX18_found 14 = .ok (.iload_n 2, 1) := by decide +kernel
theorem dX18_found_15 : decode cX18_found 15 = .ok (.iadd, 1) := by decide +kernel
theorem dX18_found_16 : decode cX18_found 16 = .ok (.istore_n 3, 1) := by decide +kernel
theorem dX18_found_17 : decode cX18_found 17 = .ok (.aload_n 0, 1) := by decide +kernel
theorem dX18_found_18 : decode cX18_found 18 = .ok (.aload_n 0, 1) := by decide +kernel
theorem dX18_found_19 : decode cX18_found 19 = .ok (.getfield 76, 3) := by decide +kernel
theorem dX18_found_22 : decode cX18_found 22 = .ok (.iload_n 3, 1) := by decide +kernel
theorem dX18_found_23 : decode cX18_found 23 = .ok (.baload, 1) := by decide +kernel
theorem dX18_found_24 : decode cX18_found 24 = .ok (.ifCond .eq 7, 3) := by decide +kernel
theorem dX18_found_27 : decode cX18_found 27 = .ok (.iconst 0, 1) := by decide +kernel
theorem dX18_found_28 : decode cX18_found 28 = .ok (.goto 4, 3) := by decide +kernel
theorem dX18_found_31 : decode cX18_found 31 = .ok (.iconst 3, 1) := by decide +kernel
theorem dX18_found_32 : decode cX18_found 32 = .ok (.putfield 130, 3) := by decide +kernel
theorem dX18_found_35 : decode cX18_found 35 = .ok (.aload_n 0, 1) := by decide +kernel
theorem dX18_found_36 : decode cX18_found 36 = .ok (.getfield 130, 3) := by decide +kernel
theorem dX18_found_39 : decode cX18_found 39 = .ok (.ifCond .le 7, 3) := by decide +kernel
theorem dX18_found_42 : decode cX18_found 42 = .ok (.iconst 0, 1) := by decide +kernel
theorem dX18_found_43 : decode cX18_found 43 = .ok (.goto 47, 3) := by decide +kernel
theorem dX18_found_46 : decode cX18_found 46 = .ok (.aload_n 0, 1) := by decide +kernel
theorem dX18_found_47 : decode cX18_found 47 = .ok (.getfield 79, 3) := by decide +kernel
theorem dX18_found_50 : decode cX18_found 50 = .ok (.iload_n 3, 1) := by decide +kernel
theorem dX18_found_51 : decode cX18_found 51 = .ok (.baload, 1) := by decide +kernel
theorem dX18_found_52 : decode cX18_found 52 = .ok (.ifCond .eq 22, 3) := by decide +kernel
theorem dX18_found_55 : decode cX18_found 55 = .ok (.aload_n 0, 1) := by decide +kernel
theorem dX18_found_56 : decode cX18_found 56 = .ok (.getfield 82, 3) := by decide +kernel
theorem dX18_found_59 : decode cX18_found 59 = .ok (.iload_n 3, 1) := by decide +kernel
theorem dX18_found_60 : decode cX18_found 60 = .ok (.baload, 1) := by decide +kernel
theorem dX18_found_61 : decode cX18_found 61 = .ok (.ifCond .eq 8, 3) := by decide +kernel
theorem dX18_found_64 : decode cX18_found 64 = .ok (.bipush 110, 2) := by decide +kernel
theorem dX18_found_66 : decode cX18_found 66 = .ok (.goto 24, 3) := by decide +kernel
theorem dX18_found_69 : decode cX18_found 69 = .ok (.bipush 115, 2) := by decide +kernel
theorem dX18_found_71 : decode cX18_found 71 = .ok (.goto 19, 3) := by decide +kernel
theorem dX18_found_74 : decode cX18_found 74 = .ok (.aload_n 0, 1) := by decide +kernel
theorem dX18_found_75 : decode cX18_found 75 = .ok (.getfield 82, 3) := by decide +kernel
theorem dX18_found_78 : decode cX18_found 78 = .ok (.iload_n 3, 1) := by decide +kernel
theorem dX18_found_79 : decode cX18_found 79 = .ok (.baload, 1) := by decide +kernel
theorem dX18_found_80 : decode cX18_found 80 = .ok (.ifCond .eq 8, 3) := by decide +kernel
theorem dX18_found_83 : decode cX18_found 83 = .ok (.bipush 109, 2) := by decide +kernel
theorem dX18_found_85 : decode cX18_found 85 = .ok (.goto 5, 3) := by decide +kernel
theorem dX18_found_88 : decode cX18_found 88 = .ok (.bipush 100, 2) := by decide +kernel
theorem dX18_found_90 : decode cX18_found 90 = .ok (.ireturn, 1) := by decide +kernel
set_option maxRecDepth 20000 in
theorem ggX18_switchOf_X18_looks : GoodIn wsX18_switchOf wsX18_looks := goodIn_ca (goodIn_r _ [7, 8, 9, 10, 11, 12, 13, 6, 14, 15, 16, 17, 18, 23, 24, 25, 26, 27, 28, 29, 30, 31, 32, 33, 34, 35, 36, 37, 38, 39, 40, 41, 42, 43, 44, 45, 46, 47, 48, 49, 50, 51, 52, 53, 54, 55, 56, 57, 58, 59, 60, 61, 62, 63, 64, 65, 66, 67, 68, 69, 70, 71, 72, 73, 74, 75, 76, 77, 78, 79, 80, 81, 82, 83, 84, 85, 86, 87, 88, 89, 90, 91, 92] (by decide +kernel) (by decide +kernel)) (goodIn_sub (fun _ h => List.mem_cons_of_mem _ (List.mem_append_right _ h)) (by decide +kernel))
set_option maxRecDepth 20000 in
theorem gX18_switchOf_X18_looks : GoodIn wsX18_switchOf (wsV RX18 249 RX18 yX18_looks wsX18_looks) := goodIn_app (goodIn_of _ (by decide +kernel)) ggX18_switchOf_X18_looks
set_option maxRecDepth 20000 in
theorem ggX18_switchOf_X18_fails : GoodIn wsX18_switchOf wsX18_fails := goodIn_r _ [22, 10, 23, 24, 25, 26, 27, 28, 29, 30, 31, 32, 33, 34, 35, 36, 37, 38, 39, 40, 41, 42, 43, 44, 45, 46, 47, 48, 49, 50, 51, 52, 53, 54, 55, 56, 57, 58, 59, 60, 61, 62, 63, 64, 65, 66, 67, 68, 69, 70, 71, 72, 73, 74, 75, 76, 77, 78, 79, 80, 81, 82, 83, 84, 85, 86, 87, 88, 89, 90, 91, 92] (by decide +kernel) (by decide +kernel)
set_option maxRecDepth 20000 in
theorem gX18_switchOf_X18_fails : GoodIn wsX18_switchOf (wsV RX18 141 RX18 yX18_fails wsX18_fails) := goodIn_app (goodIn_of _ (by decide +kernel)) ggX18_switchOf_X18_fails
theorem dX18_switchOf_0 : decode cX18_switchOf 0 = .ok (.aload_n 0, 1) := by decide +kernel
theorem dX18_switchOf_1 : decode cX18_switchOf 1 = .ok (.iload_n 1, 1) := by decide +kernel
theorem dX18_switchOf_2 : decode cX18_switchOf 2 = .ok (.iload_n 2, 1) := by decide +kernel
theorem dX18_switchOf_3 : decode cX18_switchOf 3 = .ok (.invokevirtual 249, 3) := by decide +kernel
theorem dX18_switchOf_6 : decode cX18_switchOf 6 = .ok (.ifCond .ne 5, 3) := by decide +kernel
theorem dX18_switchOf_9 : decode cX18_switchOf 9 = .ok (.iconst 0, 1) := by decide +kernel
theorem dX18_switchOf_10 : decode cX18_switchOf 10 = .ok (.ireturn, 1) := by decide +kernel
theorem dX18_switchOf_11 : decode cX18_switchOf 11 = .ok (.aload_n 0, 1) := by decide +kernel
theorem dX18_switchOf_12 : decode cX18_switchOf 12 = .ok (.getfield 72, 3) := by decide +kernel
theorem dX18_switchOf_15 : decode cX18_switchOf 15 = .ok (.iconst 2, 1) := by decide +kernel
theorem dX18_switchOf_16 : decode cX18_switchOf 16 = .ok (.iload_n 1, 1) := by decide +kernel
theorem dX18_switchOf_17 : decode cX18_switchOf 17 = .ok (.imul, 1) := by decide +kernel
theorem dX18_switchOf_18 : decode cX18_switchOf 18 = .ok (.iload_n 2, 1) := by decide +kernel
theorem dX18_switchOf_19 : decode cX18_switchOf 19 = .ok (.iadd, 1) := by decide +kernel
theorem dX18_switchOf_20 : decode cX18_switchOf 20 = .ok (.baload, 1) := by decide +kernel
theorem dX18_switchOf_21 : decode cX18_switchOf 21 = .ok (.ifCond .ne 17, 3) := by decide +kernel
theorem dX18_switchOf_24 : decode cX18_switchOf 24 = .ok (.aload_n 0, 1) := by decide +kernel
theorem dX18_switchOf_25 : decode cX18_switchOf 25 = .ok (.getfield 85, 3) := by decide +kernel
theorem dX18_switchOf_28 : decode cX18_switchOf 28 = .ok (.iconst 2, 1) := by decide +kernel
theorem dX18_switchOf_29 : decode cX18_switchOf 29 = .ok (.iload_n 1, 1) := by decide +kernel
theorem dX18_switchOf_30 : decode cX18_switchOf 30 = .ok (.imul, 1) := by decide +kernel
theorem dX18_switchOf_31 : decode cX18_switchOf 31 = .ok (.iload_n 2, 1) := by decide +kernel
theorem dX18_switchOf_32 : decode cX18_switchOf 32 = .ok (.iadd, 1) := by decide +kernel
theorem dX18_switchOf_33 : decode cX18_switchOf 33 = .ok (.iaload, 1) := by decide +kernel
theorem dX18_switchOf_34 : decode cX18_switchOf 34 = .ok (.iconst (-1), 1) := by decide +kernel
theorem dX18_switchOf_35 : decode cX18_switchOf 35 = .ok (.if_icmp .ne 11, 3) := by decide +kernel
theorem dX18_switchOf_38 : decode cX18_switchOf 38 = .ok (.aload_n 0, 1) := by decide +kernel
theorem dX18_switchOf_39 : decode cX18_switchOf 39 = .ok (.iconst 3, 1) := by decide +kernel
theorem dX18_switchOf_40 : decode cX18_switchOf 40 = .ok (.invokevirtual 141, 3) := by decide +kernel
theorem dX18_switchOf_43 : decode cX18_switchOf 43 = .ok (.goto 13, 3) := by decide +kernel
theorem dX18_switchOf_46 : decode cX18_switchOf 46 = .ok (.aload_n 0, 1) := by decide +kernel
theorem dX18_switchOf_47 : decode cX18_switchOf 47 = .ok (.getfield 85, 3) := by decide +kernel
theorem dX18_switchOf_50 : decode cX18_switchOf 50 = .ok (.iconst 2, 1) := by decide +kernel
theorem dX18_switchOf_51 : decode cX18_switchOf 51 = .ok (.iload_n 1, 1) := by decide +kernel
theorem dX18_switchOf_52 : decode cX18_switchOf 52 = .ok (.imul, 1) := by decide +kernel
theorem dX18_switchOf_53 : decode cX18_switchOf 53 = .ok (.iload_n 2, 1) := by decide +kernel
theorem dX18_switchOf_54 : decode cX18_switchOf 54 = .ok (.iadd, 1) := by decide +kernel
theorem dX18_switchOf_55 : decode cX18_switchOf 55 = .ok (.iaload, 1) := by decide +kernel
theorem dX18_switchOf_56 : decode cX18_switchOf 56 = .ok (.ireturn, 1) := by decide +kernel
set_option maxRecDepth 20000 in
theorem ggX18_spot_X18_isClause : GoodIn wsX18_spot wsX18_isClause := goodIn_r _ [10, 11, 12, 13, 9, 14, 15, 16, 17, 18, 19, 20, 21, 22, 23, 24, 25, 26, 27, 28, 29, 30, 31, 32, 33, 34, 35, 36, 37, 38, 39, 40, 41, 42, 43, 44, 45, 46, 47, 48, 49, 50, 51, 52, 53, 54, 55, 56, 57, 58, 59, 60, 61, 62, 63, 64, 65, 66, 67, 68, 69, 70, 71, 72, 73, 74, 75, 76, 77, 78, 79, 80, 81, 82, 83, 84] (by decide +kernel) (by decide +kernel)
set_option maxRecDepth 20000 in
theorem gX18_spot_X18_isClause : GoodIn wsX18_spot (wsV RX18 178 RX18 yX18_isClause wsX18_isClause) := goodIn_app (goodIn_of _ (by decide +kernel)) ggX18_spot_X18_isClause
set_option maxRecDepth 20000 in
theorem ggX18_spot_X18_in : GoodIn wsX18_spot wsX18_in := goodIn_r _ [14] (by decide +kernel) (by decide +kernel)
set_option maxRecDepth 20000 in
theorem gX18_spot_X18_in : GoodIn wsX18_spot (va_wsS RX18 145 yX18_in wsX18_in) := goodIn_app (goodIn_of _ (by decide +kernel)) ggX18_spot_X18_in
theorem dX18_spot_0 : decode cX18_spot 0 = .ok (.aload_n 0, 1) := by decide +kernel
theorem dX18_spot_1 : decode cX18_spot 1 = .ok (.aload_n 0, 1) := by decide +kernel
theorem dX18_spot_2 : decode cX18_spot 2 = .ok (.iload_n 1, 1) := by decide +kernel
theorem dX18_spot_3 : decode cX18_spot 3 = .ok (.invokevirtual 178, 3) := by decide +kernel
theorem dX18_spot_6 : decode cX18_spot 6 = .ok (.ifCond .eq 24, 3) := by decide +kernel
theorem dX18_spot_9 : decode cX18_spot 9 = .ok (.iload_n 2, 1) := by decide +kernel
theorem dX18_spot_10 : decode cX18_spot 10 = .ok (.iconst 0, 1) := by decide +kernel
theorem dX18_spot_11 : decode cX18_spot 11 = .ok (.aload_n 0, 1) := by decide +kernel
theorem dX18_spot_12 : decode cX18_spot 12 = .ok (.getfield 32, 3) := by decide +kernel
theorem dX18_spot_15 : decode cX18_spot 15 = .ok (.aload_n 0, 1) := by decide +kernel
theorem dX18_spot_16 : decode cX18_spot 16 = .ok (.getfield 42, 3) := by decide +kernel
theorem dX18_spot_19 : decode cX18_spot 19 = .ok (.iload_n 1, 1) := by decide +kernel
theorem dX18_spot_20 : decode cX18_spot 20 = .ok (.iaload, 1) := by decide +kernel
theorem dX18_spot_21 : decode cX18_spot 21 = .ok (.iaload, 1) := by decide +kernel
theorem dX18_spot_22 : decode cX18_spot 22 = .ok (.iconst 1, 1) := by decide +kernel
theorem dX18_spot_23 : decode cX18_spot 23 = .ok (.isub, 1) := by decide +kernel
theorem dX18_spot_24 : decode cX18_spot 24 = .ok (.invokestatic 145, 3) := by decide +kernel
theorem dX18_spot_27 : decode cX18_spot 27 = .ok (.ifCond .ne 7, 3) := by decide +kernel
theorem dX18_spot_30 : decode cX18_spot 30 = .ok (.iconst 1, 1) := by decide +kernel
theorem dX18_spot_31 : decode cX18_spot 31 = .ok (.goto 39, 3) := by decide +kernel
theorem dX18_spot_34 : decode cX18_spot 34 = .ok (.aload_n 0, 1) := by decide +kernel
theorem dX18_spot_35 : decode cX18_spot 35 = .ok (.getfield 137, 3) := by decide +kernel
theorem dX18_spot_38 : decode cX18_spot 38 = .ok (.ifCond .ne 7, 3) := by decide +kernel
theorem dX18_spot_41 : decode cX18_spot 41 = .ok (.iconst 2, 1) := by decide +kernel
theorem dX18_spot_42 : decode cX18_spot 42 = .ok (.goto 28, 3) := by decide +kernel
theorem dX18_spot_45 : decode cX18_spot 45 = .ok (.iload_n 3, 1) := by decide +kernel
theorem dX18_spot_46 : decode cX18_spot 46 = .ok (.iconst 0, 1) := by decide +kernel
theorem dX18_spot_47 : decode cX18_spot 47 = .ok (.aload_n 0, 1) := by decide +kernel
theorem dX18_spot_48 : decode cX18_spot 48 = .ok (.getfield 60, 3) := by decide +kernel
theorem dX18_spot_51 : decode cX18_spot 51 = .ok (.iconst 2, 1) := by decide +kernel
theorem dX18_spot_52 : decode cX18_spot 52 = .ok (.iload_n 1, 1) := by decide +kernel
theorem dX18_spot_53 : decode cX18_spot 53 = .ok (.imul, 1) := by decide +kernel
theorem dX18_spot_54 : decode cX18_spot 54 = .ok (.iload_n 2, 1) := by decide +kernel
theorem dX18_spot_55 : decode cX18_spot 55 = .ok (.iadd, 1) := by decide +kernel
theorem dX18_spot_56 : decode cX18_spot 56 = .ok (.iaload, 1) := by decide +kernel
theorem dX18_spot_57 : decode cX18_spot 57 = .ok (.iconst 1, 1) := by decide +kernel
theorem dX18_spot_58 : decode cX18_spot 58 = .ok (.isub, 1) := by decide +kernel
theorem dX18_spot_59 : decode cX18_spot 59 = .ok (.invokestatic 145, 3) := by decide +kernel
theorem dX18_spot_62 : decode cX18_spot 62 = .ok (.ifCond .eq 7, 3) := by decide +kernel
theorem dX18_spot_65 : decode cX18_spot 65 = .ok (.iconst 0, 1) := by decide +kernel
theorem dX18_spot_66 : decode cX18_spot 66 = .ok (.goto 4, 3) := by decide +kernel
theorem dX18_spot_69 : decode cX18_spot 69 = .ok (.iconst 3, 1) := by decide +kernel
theorem dX18_spot_70 : decode cX18_spot 70 = .ok (.putfield 130, 3) := by decide +kernel
theorem dX18_spot_73 : decode cX18_spot 73 = .ok (.aload_n 0, 1) := by decide +kernel
theorem dX18_spot_74 : decode cX18_spot 74 = .ok (.getfield 130, 3) := by decide +kernel
theorem dX18_spot_77 : decode cX18_spot 77 = .ok (.ifCond .le 7, 3) := by decide +kernel
theorem dX18_spot_80 : decode cX18_spot 80 = .ok (.iconst (-1), 1) := by decide +kernel
theorem dX18_spot_81 : decode cX18_spot 81 = .ok (.goto 12, 3) := by decide +kernel
theorem dX18_spot_84 : decode cX18_spot 84 = .ok (.iconst 5, 1) := by decide +kernel
theorem dX18_spot_85 : decode cX18_spot 85 = .ok (.iconst 2, 1) := by decide +kernel
theorem dX18_spot_86 : decode cX18_spot 86 = .ok (.iload_n 1, 1) := by decide +kernel
theorem dX18_spot_87 : decode cX18_spot 87 = .ok (.imul, 1) := by decide +kernel
theorem dX18_spot_88 : decode cX18_spot 88 = .ok (.iload_n 2, 1) := by decide +kernel
theorem dX18_spot_89 : decode cX18_spot 89 = .ok (.iadd, 1) := by decide +kernel
theorem dX18_spot_90 : decode cX18_spot 90 = .ok (.imul, 1) := by decide +kernel
theorem dX18_spot_91 : decode cX18_spot 91 = .ok (.iload_n 3, 1) := by decide +kernel
theorem dX18_spot_92 : decode cX18_spot 92 = .ok (.iadd, 1) := by decide +kernel
theorem dX18_spot_93 : decode cX18_spot 93 = .ok (.ireturn, 1) := by decide +kernel
set_option maxRecDepth 20000 in
theorem ggX18_goalAt_X18_spot : GoodIn wsX18_goalAt wsX18_spot := goodIn_ca (goodIn_r _ [6, 7, 8, 9, 10, 11, 12, 13, 14, 5, 15, 16, 17, 18, 19, 20, 21, 22, 23, 24, 25, 26, 27, 28, 29, 30, 31, 32, 33, 34, 35, 36, 37, 38, 39, 40, 41, 42, 43, 44, 45, 46, 47, 48, 49, 50, 51, 52, 53, 54, 55, 56, 57, 58, 59, 60, 61, 62, 63, 64, 65, 66, 67, 68, 69, 70, 71, 72, 73, 74, 75, 76, 77, 78, 79, 80, 81, 82, 83, 84, 85, 86, 87, 88, 89] (by decide +kernel) (by decide +kernel)) (goodIn_sub (fun _ h => List.mem_cons_of_mem _ (List.mem_append_right _ h)) (by decide +kernel))
set_option maxRecDepth 20000 in
theorem gX18_goalAt_X18_spot : GoodIn wsX18_goalAt (wsV RX18 252 RX18 yX18_spot wsX18_spot) := goodIn_app (goodIn_of _ (by decide +kernel)) ggX18_goalAt_X18_spot
theorem dX18_goalAt_0 : decode cX18_goalAt 0 = .ok (.aload_n 0, 1) := by decide +kernel
theorem dX18_goalAt_1 : decode cX18_goalAt 1 = .ok (.iload_n 1, 1) := by decide +kernel
theorem dX18_goalAt_2 : decode cX18_goalAt 2 = .ok (.iload_n 2, 1) := by decide +kernel
theorem dX18_goalAt_3 : decode cX18_goalAt 3 = .ok (.iload_n 3, 1) := by decide +kernel
theorem dX18_goalAt_4 : decode cX18_goalAt 4 = .ok (.invokevirtual 252, 3) := by decide +kernel
theorem dX18_goalAt_7 : decode cX18_goalAt 7 = .ok (.istore 4, 2) := by decide +kernel
theorem dX18_goalAt_9 : decode cX18_goalAt 9 = .ok (.iload 4, 2) := by decide +kernel
theorem dX18_goalAt_11 : decode cX18_goalAt 11 = .ok (.iconst (-1), 1) := by decide +kernel
theorem dX18_goalAt_12 : decode cX18_goalAt 12 = .ok (.if_icmp .ne 7, 3) := by decide +kernel
theorem dX18_goalAt_15 : decode cX18_goalAt 15 = .ok (.iconst 0, 1) := by decide +kernel
theorem dX18_goalAt_16 : decode cX18_goalAt 16 = .ok (.goto 10, 3) := by decide +kernel
theorem dX18_goalAt_19 : decode cX18_goalAt 19 = .ok (.aload_n 0, 1) := by decide +kernel
theorem dX18_goalAt_20 : decode cX18_goalAt 20 = .ok (.getfield 63, 3) := by decide +kernel
theorem dX18_goalAt_23 : decode cX18_goalAt 23 = .ok (.iload 4, 2) := by decide +kernel
theorem dX18_goalAt_25 : decode cX18_goalAt 25 = .ok (.iaload, 1) := by decide +kernel
theorem dX18_goalAt_26 : decode cX18_goalAt 26 = .ok (.ireturn, 1) := by decide +kernel
set_option maxRecDepth 20000 in
theorem ggX18_chosenAt_X18_spot : GoodIn wsX18_chosenAt wsX18_spot := goodIn_ca (goodIn_r _ [6, 7, 8, 9, 10, 11, 12, 13, 14, 5, 15, 16, 17, 18, 19, 24, 25, 26, 27, 28, 29, 30, 31, 32, 33, 34, 35, 36, 37, 38, 39, 40, 41, 42, 43, 44, 45, 46, 47, 48, 49, 50, 51, 52, 53, 54, 55, 56, 57, 58, 59, 60, 61, 62, 63, 64, 65, 66, 67, 68, 69, 70, 71, 72, 73, 74, 75, 76, 77, 78, 79, 80, 81, 82, 83, 84, 85, 86, 87, 88, 89, 90, 91, 92, 93] (by decide +kernel) (by decide +kernel)) (goodIn_sub (fun _ h => List.mem_cons_of_mem _ (List.mem_append_right _ h)) (by decide +kernel))
set_option maxRecDepth 20000 in
theorem gX18_chosenAt_X18_spot : GoodIn wsX18_chosenAt (wsV RX18 252 RX18 yX18_spot wsX18_spot) := goodIn_app (goodIn_of _ (by decide +kernel)) ggX18_chosenAt_X18_spot
set_option maxRecDepth 20000 in
theorem ggX18_chosenAt_X18_fails : GoodIn wsX18_chosenAt wsX18_fails := goodIn_r _ [23, 11, 24, 25, 26, 27, 28, 29, 30, 31, 32, 33, 34, 35, 36, 37, 38, 39, 40, 41, 42, 43, 44, 45, 46, 47, 48, 49, 50, 51, 52, 53, 54, 55, 56, 57, 58, 59, 60, 61, 62, 63, 64, 65, 66, 67, 68, 69, 70, 71, 72, 73, 74, 75, 76, 77, 78, 79, 80, 81, 82, 83, 84, 85, 86, 87, 88, 89, 90, 91, 92, 93] (by decide +kernel) (by decide +kernel)
set_option maxRecDepth 20000 in
theorem gX18_chosenAt_X18_fails : GoodIn wsX18_chosenAt (wsV RX18 141 RX18 yX18_fails wsX18_fails) := goodIn_app (goodIn_of _ (by decide +kernel)) ggX18_chosenAt_X18_fails
theorem dX18_chosenAt_0 : decode cX18_chosenAt 0 = .ok (.aload_n 0, 1) := by decide +kernel
theorem dX18_chosenAt_1 : decode cX18_chosenAt 1 = .ok (.iload_n 1, 1) := by decide +kernel
theorem dX18_chosenAt_2 : decode cX18_chosenAt 2 = .ok (.iload_n 2, 1) := by decide +kernel
theorem dX18_chosenAt_3 : decode cX18_chosenAt 3 = .ok (.iload_n 3, 1) := by decide +kernel
theorem dX18_chosenAt_4 : decode cX18_chosenAt 4 = .ok (.invokevirtual 252, 3) := by decide +kernel
theorem dX18_chosenAt_7 : decode cX18_chosenAt 7 = .ok (.istore 4, 2) := by decide +kernel
theorem dX18_chosenAt_9 : decode cX18_chosenAt 9 = .ok (.iload 4, 2) := by decide +kernel
theorem dX18_chosenAt_11 : decode cX18_chosenAt 11 = .ok (.iconst (-1), 1) := by decide +kernel
theorem dX18_chosenAt_12 : decode cX18_chosenAt 12 = .ok (.if_icmp .ne 5, 3) := by decide +kernel
theorem dX18_chosenAt_15 : decode cX18_chosenAt 15 = .ok (.iconst 0, 1) := by decide +kernel
theorem dX18_chosenAt_16 : decode cX18_chosenAt 16 = .ok (.ireturn, 1) := by decide +kernel
theorem dX18_chosenAt_17 : decode cX18_chosenAt 17 = .ok (.aload_n 0, 1) := by decide +kernel
theorem dX18_chosenAt_18 : decode cX18_chosenAt 18 = .ok (.getfield 66, 3) := by decide +kernel
theorem dX18_chosenAt_21 : decode cX18_chosenAt 21 = .ok (.iload 4, 2) := by decide +kernel
theorem dX18_chosenAt_23 : decode cX18_chosenAt 23 = .ok (.iaload, 1) := by decide +kernel
theorem dX18_chosenAt_24 : decode cX18_chosenAt 24 = .ok (.iconst (-1), 1) := by decide +kernel
theorem dX18_chosenAt_25 : decode cX18_chosenAt 25 = .ok (.if_icmp .ne 11, 3) := by decide +kernel
theorem dX18_chosenAt_28 : decode cX18_chosenAt 28 = .ok (.aload_n 0, 1) := by decide +kernel
theorem dX18_chosenAt_29 : decode cX18_chosenAt 29 = .ok (.iconst 3, 1) := by decide +kernel
theorem dX18_chosenAt_30 : decode cX18_chosenAt 30 = .ok (.invokevirtual 141, 3) := by decide +kernel
theorem dX18_chosenAt_33 : decode cX18_chosenAt 33 = .ok (.goto 10, 3) := by decide +kernel
theorem dX18_chosenAt_36 : decode cX18_chosenAt 36 = .ok (.aload_n 0, 1) := by decide +kernel
theorem dX18_chosenAt_37 : decode cX18_chosenAt 37 = .ok (.getfield 66, 3) := by decide +kernel
theorem dX18_chosenAt_40 : decode cX18_chosenAt 40 = .ok (.iload 4, 2) := by decide +kernel
theorem dX18_chosenAt_42 : decode cX18_chosenAt 42 = .ok (.iaload, 1) := by decide +kernel
theorem dX18_chosenAt_43 : decode cX18_chosenAt 43 = .ok (.ireturn, 1) := by decide +kernel
theorem dX18_isInput_0 : decode cX18_isInput 0 = .ok (.iload_n 3, 1) := by decide +kernel
theorem dX18_isInput_1 : decode cX18_isInput 1 = .ok (.aload_n 0, 1) := by decide +kernel
theorem dX18_isInput_2 : decode cX18_isInput 2 = .ok (.getfield 26, 3) := by decide +kernel
theorem dX18_isInput_5 : decode cX18_isInput 5 = .ok (.iload_n 1, 1) := by decide +kernel
theorem dX18_isInput_6 : decode cX18_isInput 6 = .ok (.iaload, 1) := by decide +kernel
theorem dX18_isInput_7 : decode cX18_isInput 7 = .ok (.if_icmp .ge 25, 3) := by decide +kernel
theorem dX18_isInput_10 : decode cX18_isInput 10 = .ok (.aload_n 0, 1) := by decide +kernel
theorem dX18_isInput_11 : decode cX18_isInput 11 = .ok (.getfield 35, 3) := by decide +kernel
theorem dX18_isInput_14 : decode cX18_isInput 14 = .ok (.iconst 2, 1) := by decide +kernel
theorem dX18_isInput_15 : decode cX18_isInput 15 = .ok (.iload_n 1, 1) := by decide +kernel
theorem dX18_isInput_16 : decode cX18_isInput 16 = .ok (.imul, 1) := by decide +kernel
theorem dX18_isInput_17 : decode cX18_isInput 17 = .ok (.iload_n 2, 1) := by decide +kernel
theorem dX18_isInput_18 : decode cX18_isInput 18 = .ok (.iadd, 1) := by decide +kernel
theorem dX18_isInput_19 : decode cX18_isInput 19 = .ok (.iaload, 1) := by decide +kernel
theorem dX18_isInput_20 : decode cX18_isInput 20 = .ok (.iload_n 3, 1) := by decide +kernel
theorem dX18_isInput_21 : decode cX18_isInput 21 = .ok (.ishr, 1) := by decide +kernel
theorem dX18_isInput_22 : decode cX18_isInput 22 = .ok (.iconst 1, 1) := by decide +kernel
theorem dX18_isInput_23 : decode cX18_isInput 23 = .ok (.iand, 1) := by decide +kernel
theorem dX18_isInput_24 : decode cX18_isInput 24 = .ok (.iconst 1, 1) := by decide +kernel
theorem dX18_isInput_25 : decode cX18_isInput 25 = .ok (.if_icmp .ne 7, 3) := by decide +kernel
theorem dX18_isInput_28 : decode cX18_isInput 28 = .ok (.iconst 1, 1) := by decide +kernel
theorem dX18_isInput_29 : decode cX18_isInput 29 = .ok (.goto 4, 3) := by decide +kernel
theorem dX18_isInput_32 : decode cX18_isInput 32 = .ok (.iconst 0, 1) := by decide +kernel
theorem dX18_isInput_33 : decode cX18_isInput 33 = .ok (.ireturn, 1) := by decide +kernel
set_option maxRecDepth 20000 in
theorem ggX18_ask_X18_isPredicate : GoodIn wsX18_ask wsX18_isPredicate := goodIn_r _ [39, 40, 41, 42, 38, 43, 190, 191, 192, 193, 194, 195, 196, 197, 198, 199, 200, 201, 202, 203, 204, 205, 206, 207, 208, 209, 210, 211, 212, 213, 214, 215, 216, 217, 218, 219, 220, 221, 222, 223, 224, 225, 226, 227, 228, 229, 230, 231, 232, 233, 234, 235, 236, 237, 238, 239, 240, 241, 242, 243, 244, 245, 246, 247, 248, 249, 250, 251, 252, 253, 254, 255, 256, 257, 258, 259] (by decide +kernel) (by decide +kernel)
set_option maxRecDepth 20000 in
theorem gX18_ask_X18_isPredicate : GoodIn wsX18_ask (wsV RX18 172 RX18 yX18_isPredicate wsX18_isPredicate) := goodIn_app (goodIn_of _ (by decide +kernel)) ggX18_ask_X18_isPredicate
set_option maxRecDepth 20000 in
theorem ggX18_ask_X18_in : GoodIn wsX18_ask wsX18_in := goodIn_r _ [43] (by decide +kernel) (by decide +kernel)
set_option maxRecDepth 20000 in
theorem gX18_ask_X18_in : GoodIn wsX18_ask (va_wsS RX18 145 yX18_in wsX18_in) := goodIn_app (goodIn_of _ (by decide +kernel)) ggX18_ask_X18_in
set_option maxRecDepth 20000 in
theorem ggX18_ask_X18_fails : GoodIn wsX18_ask wsX18_fails := goodIn_r _ [47, 1, 190, 191, 192, 193, 194, 195, 196, 197, 198, 199, 200, 201, 202, 203, 204, 205, 206, 207, 208, 209, 210, 211, 212, 213, 214, 215, 216, 217, 218, 219, 220, 221, 222, 223, 224, 225, 226, 227, 228, 229, 230, 231, 232, 233, 234, 235, 236, 237, 238, 239, 240, 241, 242, 243, 244, 245, 246, 247, 248, 249, 250, 251, 252, 253, 254, 255, 256, 257, 258, 259] (by decide +kernel) (by decide +kernel)
set_option maxRecDepth 20000 in
theorem gX18_ask_X18_fails : GoodIn wsX18_ask (wsV RX18 141 RX18 yX18_fails wsX18_fails) := goodIn_app (goodIn_of _ (by decide +kernel)) ggX18_ask_X18_fails
set_option maxRecDepth 20000 in
theorem ggX18_ask_X18_isInput : GoodIn wsX18_ask wsX18_isInput := goodIn_ca (goodIn_r _ [51, 52, 53, 190, 191, 192, 193, 194, 195, 196, 197, 198, 199, 200, 201, 202, 203, 204, 205, 206, 207, 208, 209, 210, 211, 212, 213, 214, 215, 216, 217, 218, 219, 220, 221, 222, 223, 224, 225, 226, 227, 228, 229, 230, 231, 232, 233, 234, 235, 236, 237, 238, 239, 240, 241, 242, 243, 244, 245, 246, 247, 248, 249, 250, 251, 252, 253, 254, 255, 256, 257, 258, 259] (by decide +kernel) (by decide +kernel)) (goodIn_sub (fun _ h => List.mem_cons_of_mem _ (List.mem_append_right _ h)) (by decide +kernel))
set_option maxRecDepth 20000 in
theorem gX18_ask_X18_isInput : GoodIn wsX18_ask (wsV RX18 397 RX18 yX18_isInput wsX18_isInput) := goodIn_app (goodIn_of _ (by decide +kernel)) ggX18_ask_X18_isInput
set_option maxRecDepth 20000 in
theorem ggX18_ask_X18_isTerm : GoodIn wsX18_ask wsX18_isTerm := goodIn_r _ [57, 7, 41, 42, 38, 43, 190, 191, 192, 193, 194, 195, 196, 197, 198, 199, 200, 201, 202, 203, 204, 205, 206, 207, 208, 209, 210, 211, 212, 213, 214, 215, 216, 217, 218, 219, 220, 221, 222, 223, 224, 225, 226, 227, 228, 229, 230, 231, 232, 233, 234, 235, 236, 237, 238, 239, 240, 241, 242, 243, 244, 245, 246, 247, 248, 249, 250, 251, 252, 253, 254, 255, 256, 257, 258, 259] (by decide +kernel) (by decide +kernel)
set_option maxRecDepth 20000 in
theorem gX18_ask_X18_isTerm : GoodIn wsX18_ask (wsV RX18 158 RX18 yX18_isTerm wsX18_isTerm) := goodIn_app (goodIn_of _ (by decide +kernel)) ggX18_ask_X18_isTerm
set_option maxRecDepth 20000 in
theorem ggX18_ask_X18_typeOfTerm : GoodIn wsX18_ask wsX18_typeOfTerm := goodIn_ca (goodIn_r _ [61, 62, 63, 190, 191, 192, 193, 194, 195, 196, 197, 198, 199, 200, 201, 202, 203, 204, 205, 206, 207, 208, 209, 210, 211, 212, 213, 214, 215, 216, 217, 218, 219, 220, 221, 222, 223, 224, 225, 226, 227, 228, 229, 230, 231, 232, 233, 234, 235, 236, 237, 238, 239, 240, 241, 242, 243, 244, 245, 246, 247, 248, 249, 250, 251, 252, 253, 254, 255, 256, 257, 258, 259] (by decide +kernel) (by decide +kernel)) (goodIn_sub (fun _ h => List.mem_cons_of_mem _ (List.mem_append_right _ h)) (by decide +kernel))
set_option maxRecDepth 20000 in
theorem gX18_ask_X18_typeOfTerm : GoodIn wsX18_ask (wsV RX18 162 RX18 yX18_typeOfTerm wsX18_typeOfTerm) := goodIn_app (goodIn_of _ (by decide +kernel)) ggX18_ask_X18_typeOfTerm
theorem dX18_ask_0 : decode cX18_ask 0 = .ok (.aload_n 0, 1) := by decide +kernel
theorem dX18_ask_1 : decode cX18_ask 1 = .ok (.iconst 0, 1) := by decide +kernel
theorem dX18_ask_2 : decode cX18_ask 2 = .ok (.putfield 130, 3) := by decide +kernel
theorem dX18_ask_5 : decode cX18_ask 5 = .ok (.aload_n 0, 1) := by decide +kernel
theorem dX18_ask_6 : decode cX18_ask 6 = .ok (.iload_n 1, 1) := by decide +kernel
theorem dX18_ask_7 : decode cX18_ask 7 = .ok (.invokevirtual 172, 3) := by decide +kernel
theorem dX18_ask_10 : decode cX18_ask 10 = .ok (.ifCond .eq 19, 3) := by decide +kernel
theorem dX18_ask_13 : decode cX18_ask 13 = .ok (.iload_n 2, 1) := by decide +kernel
theorem dX18_ask_14 : decode cX18_ask 14 = .ok (.iconst 0, 1) := by decide +kernel
theorem dX18_ask_15 : decode cX18_ask 15 = .ok (.aload_n 0, 1) := by decide +kernel
theorem dX18_ask_16 : decode cX18_ask 16 = .ok (.getfield 32, 3) := by decide +kernel
theorem dX18_ask_19 : decode cX18_ask 19 = .ok (.iload_n 1, 1) := by decide +kernel
theorem dX18_ask_20 : decode cX18_ask 20 = .ok (.iaload, 1) := by decide +kernel
theorem dX18_ask_21 : decode cX18_ask 21 = .ok (.iconst 1, 1) := by decide +kernel
theorem dX18_ask_22 : decode cX18_ask 22 = .ok (.isub, 1) := by decide +kernel
theorem dX18_ask_23 : decode cX18_ask 23 = .ok (.invokestatic 145, 3) := by decide +kernel
theorem dX18_ask_26 : decode cX18_ask 26 = .ok (.ifCond .ne 9, 3) := by decide +kernel
theorem dX18_ask_29 : decode cX18_ask 29 = .ok (.aload_n 0, 1) := by decide +kernel
theorem dX18_ask_30 : decode cX18_ask 30 = .ok (.iconst 1, 1) := by decide +kernel
theorem dX18_ask_31 : decode cX18_ask 31 = .ok (.invokevirtual 141, 3) := by decide +kernel
theorem dX18_ask_34 : decode cX18_ask 34 = .ok (.ireturn, 1) := by decide +kernel
theorem dX18_ask_35 : decode cX18_ask 35 = .ok (.iconst 3, 1) := by decide +kernel
theorem dX18_ask_36 : decode cX18_ask 36 = .ok (.newarray .int, 2) := by decide +kernel
theorem dX18_ask_38 : decode cX18_ask 38 = .ok (.dup, 1) := by decide +kernel
theorem dX18_ask_39 : decode cX18_ask 39 = .ok (.iconst 0, 1) := by decide +kernel
theorem dX18_ask_40 : decode cX18_ask 40 = .ok (.iload_n 3, 1) := by decide +kernel
theorem dX18_ask_41 : decode cX18_ask 41 = .ok (.iastore, 1) := by decide +kernel
theorem dX18_ask_42 : decode cX18_ask 42 = .ok (.dup, 1) := by decide +kernel
theorem dX18_ask_43 : decode cX18_ask 43 = .ok (.iconst 1, 1) := by decide +kernel
theorem dX18_ask_44 : decode cX18_ask 44 = .ok (.iload 4, 2) := by decide +kernel
theorem dX18_ask_46 : decode cX18_ask 46 = .ok (.iastore, 1) := by decide +kernel
theorem dX18_ask_47 : decode cX18_ask 47 = .ok (.dup, 1) := by decide +kernel
theorem dX18_ask_48 : decode cX18_ask 48 = .ok (.iconst 2, 1) := by decide +kernel
theorem dX18_ask_49 : decode cX18_ask 49 = .ok (.iload 5, 2) := by decide +kernel
theorem dX18_ask_51 : decode cX18_ask 51 = .ok (.iastore, 1) := by decide +kernel
theorem dX18_ask_52 : decode cX18_ask 52 = .ok (.astore 6, 2) := by decide +kernel
theorem dX18_ask_54 : decode cX18_ask 54 = .ok (.iconst 1, 1) := by decide +kernel
theorem dX18_ask_55 : decode cX18_ask 55 = .ok (.istore 7, 2) := by decide +kernel
theorem dX18_ask_57 : decode cX18_ask 57 = .ok (.iconst 0, 1) := by decide +kernel
theorem dX18_ask_58 : decode cX18_ask 58 = .ok (.istore 8, 2) := by decide +kernel
theorem dX18_ask_60 : decode cX18_ask 60 = .ok (.iload 8, 2) := by decide +kernel
theorem dX18_ask_62 : decode cX18_ask 62 = .ok (.iconst 3, 1) := by decide +kernel
theorem dX18_ask_63 : decode cX18_ask 63 = .ok (.if_icmp .ge 95, 3) := by decide +kernel
theorem dX18_ask_66 : decode cX18_ask 66 = .ok (.aload_n 0, 1) := by decide +kernel
theorem dX18_ask_67 : decode cX18_ask 67 = .ok (.iload_n 1, 1) := by decide +kernel
theorem dX18_ask_68 : decode cX18_ask 68 = .ok (.iload_n 2, 1) := by decide +kernel
theorem dX18_ask_69 : decode cX18_ask 69 = .ok (.iload 8, 2) := by decide +kernel
theorem dX18_ask_71 : decode cX18_ask 71 = .ok (.invokevirtual 397, 3) := by decide +kernel
theorem dX18_ask_74 : decode cX18_ask 74 = .ok (.ifCond .eq 21, 3) := by decide +kernel
theorem dX18_ask_77 : decode cX18_ask 77 = .ok (.aload_n 0, 1) := by decide +kernel
theorem dX18_ask_78 : decode cX18_ask 78 = .ok (.aload 6, 2) := by decide +kernel
theorem dX18_ask_80 : decode cX18_ask 80 = .ok (.iload 8, 2) := by decide +kernel
theorem dX18_ask_82 : decode cX18_ask 82 = .ok (.iaload, 1) := by decide +kernel
theorem dX18_ask_83 : decode cX18_ask 83 = .ok (.invokevirtual 158, 3) := by decide +kernel
theorem dX18_ask_86 : decode cX18_ask 86 = .ok (.ifCond .ne 9, 3) := by decide +kernel
theorem dX18_ask_89 : decode cX18_ask 89 = .ok (.aload_n 0, 1) := by decide +kernel
theorem dX18_ask_90 : decode cX18_ask 90 = .ok (.iconst 1, 1) := by decide +kernel
theorem dX18_ask_91 : decode cX18_ask 91 = .ok (.invokevirtual 141, 3) := by decide +kernel
theorem dX18_ask_94 : decode cX18_ask 94 = .ok (.ireturn, 1) := by decide +kernel
theorem dX18_ask_95 : decode cX18_ask 95 = .ok (.iload 7, 2) := by decide +kernel
theorem dX18_ask_97 : decode cX18_ask 97 = .ok (.ifCond .eq 52, 3) := by decide +kernel
theorem dX18_ask_100 : decode cX18_ask 100 = .ok (.aload_n 0, 1) := by decide +kernel
theorem dX18_ask_101 : decode cX18_ask 101 = .ok (.iload_n 1, 1) := by decide +kernel
theorem dX18_ask_102 : decode cX18_ask 102 = .ok (.iload_n 2, 1) := by decide +kernel
theorem dX18_ask_103 : decode cX18_ask 103 = .ok (.iload 8, 2) := by decide +kernel
theorem dX18_ask_105 : decode cX18_ask 105 = .ok (.invokevirtual 397, 3) := by decide +kernel
theorem dX18_ask_108 : decode cX18_ask 108 = .ok (.ifCond .eq 29, 3) := by decide +kernel
theorem dX18_ask_111 : decode cX18_ask 111 = .ok (.aload_n 0, 1) := by decide +kernel
theorem dX18_ask_112 : decode cX18_ask 112 = .ok (.aload 6, 2) := by decide +kernel
theorem dX18_ask_114 : decode cX18_ask 114 = .ok (.iload 8, 2) := by decide +kernel
theorem dX18_ask_116 : decode cX18_ask 116 = .ok (.iaload, 1) := by decide +kernel
theorem dX18_ask_117 : decode cX18_ask 117 = .ok (.invokevirtual 162, 3) := by decide +kernel
theorem dX18_ask_120 : decode cX18_ask 120 = .ok (.aload_n 0, 1) := by decide +kernel
theorem dX18_ask_121 : decode cX18_ask 121 = .ok (.getfield 29, 3) := by decide +kernel
theorem dX18_ask_124 : decode cX18_ask 124 = .ok (.iconst 3, 1) := by decide +kernel
theorem dX18_ask_125 : decode cX18_ask 125 = .ok (.iload_n 1, 1) := by decide +kernel
theorem dX18_ask_126 : decode cX18_ask 126 = .ok (.imul, 1) := by decide +kernel
theorem dX18_ask_127 : decode cX18_ask 127 = .ok (.iload 8, 2) := by decide +kernel
theorem dX18_ask_129 : decode cX18_ask 129 = .ok (.iadd, 1) := by decide +kernel
theorem dX18_ask_130 : decode cX18_ask 130 = .ok (.iaload, 1) := by decide +kernel
theorem dX18_ask_131 : decode cX18_ask 131 = .ok (.if_icmp .ne 18, 3) := by decide +kernel
theorem dX18_ask_134 : decode cX18_ask 134 = .ok (.goto 11, 3) := by decide +kernel
theorem dX18_ask_137 : decode cX18_ask 137 = .ok (.aload 6, 2) := by decide +kernel
theorem dX18_ask_139 : decode cX18_ask 139 = .ok (.iload 8, 2) := by decide +kernel
theorem dX18_ask_141 : decode cX18_ask 141 = .ok (.iaload, 1) := by decide +kernel
theorem dX18_ask_142 : decode cX18_ask 142 = .ok (.ifCond .ne 7, 3) := by decide +kernel
theorem dX18_ask_145 : decode cX18_ask 145 = .ok (.iconst 1, 1) := by decide +kernel
theorem dX18_ask_146 : decode cX18_ask 146 = .ok (.goto 4, 3) := by decide +kernel
theorem dX18_ask_149 : decode cX18_ask 149 = .ok (.iconst 0, 1) := by decide +kernel
theorem dX18_ask_150 : decode cX18_ask 150 = .ok (.istore 7, 2) := by decide +kernel
theorem dX18_ask_152 : decode cX18_ask 152 = .ok (.iinc 8 1, 3) := by decide +kernel
theorem dX18_ask_155 : decode cX18_ask 155 = .ok (.goto (-95), 3) := by decide +kernel
theorem dX18_ask_158 : decode cX18_ask 158 = .ok (.iload 7, 2) := by decide +kernel
theorem dX18_ask_160 : decode cX18_ask 160 = .ok (.ifCond .ne 9, 3) := by decide +kernel
theorem dX18_ask_163 : decode cX18_ask 163 = .ok (.aload_n 0, 1) := by decide +kernel
theorem dX18_ask_164 : decode cX18_ask 164 = .ok (.iconst 2, 1) := by decide +kernel
theorem dX18_ask_165 : decode cX18_ask 165 = .ok (.invokevirtual 141, 3) := by decide +kernel
theorem dX18_ask_168 : decode cX18_ask 168 = .ok (.ireturn, 1) := by decide +kernel
theorem dX18_ask_169 : decode cX18_ask 169 = .ok (.aload_n 0, 1) := by decide +kernel
theorem dX18_ask_170 : decode cX18_ask 170 = .ok (.getfield 137, 3) := by decide +kernel
theorem dX18_ask_173 : decode cX18_ask 173 = .ok (.ifCond .ne 9, 3) := by decide +kernel
theorem dX18_ask_176 : decode cX18_ask 176 = .ok (.aload_n 0, 1) := by decide +kernel
theorem dX18_ask_177 : decode cX18_ask 177 = .ok (.iconst 3, 1) := by decide +kernel
theorem dX18_ask_178 : decode cX18_ask 178 = .ok (.invokevirtual 141, 3) := by decide +kernel
theorem dX18_ask_181 : decode cX18_ask 181 = .ok (.ireturn, 1) := by decide +kernel
theorem dX18_ask_182 : decode cX18_ask 182 = .ok (.aload_n 0, 1) := by decide +kernel
theorem dX18_ask_183 : decode cX18_ask 183 = .ok (.getfield 76, 3) := by decide +kernel
theorem dX18_ask_186 : decode cX18_ask 186 = .ok (.iconst 2, 1) := by decide +kernel
theorem dX18_ask_187 : decode cX18_ask 187 = .ok (.iload_n 1, 1) := by decide +kernel
theorem dX18_ask_188 : decode cX18_ask 188 = .ok (.imul, 1) := by decide +kernel
theorem dX18_ask_189 : decode cX18_ask 189 = .ok (.iload_n 2, 1) := by decide +kernel
theorem dX18_ask_190 : decode cX18_ask 190 = .ok (.iadd, 1) := by decide +kernel
theorem dX18_ask_191 : decode cX18_ask 191 = .ok (.baload, 1) := by decide +kernel
theorem dX18_ask_192 : decode cX18_ask 192 = .ok (.ifCond .ne 9, 3) := by decide +kernel
theorem dX18_ask_195 : decode cX18_ask 195 = .ok (.aload_n 0, 1) := by decide +kernel
theorem dX18_ask_196 : decode cX18_ask 196 = .ok (.iconst 4, 1) := by decide +kernel
theorem dX18_ask_197 : decode cX18_ask 197 = .ok (.invokevirtual 141, 3) := by decide +kernel
theorem dX18_ask_200 : decode cX18_ask 200 = .ok (.ireturn, 1) := by decide +kernel
theorem dX18_ask_201 : decode cX18_ask 201 = .ok (.aload_n 0, 1) := by decide +kernel
theorem dX18_ask_202 : decode cX18_ask 202 = .ok (.getfield 152, 3) := by decide +kernel
theorem dX18_ask_205 : decode cX18_ask 205 = .ok (.istore 8, 2) := by decide +kernel
theorem dX18_ask_207 : decode cX18_ask 207 = .ok (.aload_n 0, 1) := by decide +kernel
theorem dX18_ask_208 : decode cX18_ask 208 = .ok (.iconst 0, 1) := by decide +kernel
theorem dX18_ask_209 : decode cX18_ask 209 = .ok (.putfield 274, 3) := by decide +kernel
theorem dX18_ask_212 : decode cX18_ask 212 = .ok (.aload_n 0, 1) := by decide +kernel
theorem dX18_ask_213 : decode cX18_ask 213 = .ok (.iconst 0, 1) := by decide +kernel
theorem dX18_ask_214 : decode cX18_ask 214 = .ok (.putfield 353, 3) := by decide +kernel
theorem dX18_ask_217 : decode cX18_ask 217 = .ok (.aload_n 0, 1) := by decide +kernel
theorem dX18_ask_218 : decode cX18_ask 218 = .ok (.iconst 0, 1) := by decide +kernel
theorem dX18_ask_219 : decode cX18_ask 219 = .ok (.putfield 350, 3) := by decide +kernel
theorem dX18_ask_222 : decode cX18_ask 222 = .ok (.aload_n 0, 1) := by decide +kernel
theorem dX18_ask_223 : decode cX18_ask 223 = .ok (.iconst 0, 1) := by decide +kernel
theorem dX18_ask_224 : decode cX18_ask 224 = .ok (.putfield 356, 3) := by decide +kernel
theorem dX18_ask_227 : decode cX18_ask 227 = .ok (.aload_n 0, 1) := by decide +kernel
theorem dX18_ask_228 : decode cX18_ask 228 = .ok (.iconst 0, 1) := by decide +kernel
theorem dX18_ask_229 : decode cX18_ask 229 = .ok (.putfield 305, 3) := by decide +kernel
theorem dX18_ask_232 : decode cX18_ask 232 = .ok (.aload_n 0, 1) := by decide +kernel
theorem dX18_ask_233 : decode cX18_ask 233 = .ok (.iconst 0, 1) := by decide +kernel
theorem dX18_ask_234 : decode cX18_ask 234 = .ok (.putfield 281, 3) := by decide +kernel
theorem dX18_ask_237 : decode cX18_ask 237 = .ok (.aload_n 0, 1) := by decide +kernel
theorem dX18_ask_238 : decode cX18_ask 238 = .ok (.iconst 0, 1) := by decide +kernel
theorem dX18_ask_239 : decode cX18_ask 239 = .ok (.putfield 255, 3) := by decide +kernel
theorem dX18_ask_242 : decode cX18_ask 242 = .ok (.aload_n 0, 1) := by decide +kernel
theorem dX18_ask_243 : decode cX18_ask 243 = .ok (.iconst 0, 1) := by decide +kernel
theorem dX18_ask_244 : decode cX18_ask 244 = .ok (.putfield 261, 3) := by decide +kernel
theorem dX18_ask_247 : decode cX18_ask 247 = .ok (.aload_n 0, 1) := by decide +kernel
theorem dX18_ask_248 : decode cX18_ask 248 = .ok (.aconst_null, 1) := by decide +kernel
theorem dX18_ask_249 : decode cX18_ask 249 = .ok (.putfield 295, 3) := by decide +kernel
theorem dX18_ask_252 : decode cX18_ask 252 = .ok (.aload_n 0, 1) := by decide +kernel
theorem dX18_ask_253 : decode cX18_ask 253 = .ok (.iload_n 1, 1) := by decide +kernel
theorem dX18_ask_254 : decode cX18_ask 254 = .ok (.iload_n 2, 1) := by decide +kernel
theorem dX18_ask_255 : decode cX18_ask 255 = .ok (.aload 6, 2) := by decide +kernel
theorem dX18_ask_257 : decode cX18_ask 257 = .ok (.iconst 1, 1) := by decide +kernel
theorem dX18_ask_258 : decode cX18_ask 258 = .ok (.aconst_null, 1) := by decide +kernel
theorem dX18_ask_259 : decode cX18_ask 259 = .ok (.invokevirtual 376, 3) := by decide +kernel
theorem dX18_ask_262 : decode cX18_ask 262 = .ok (.istore 9, 2) := by decide +kernel
theorem dX18_ask_264 : decode cX18_ask 264 = .ok (.aload_n 0, 1) := by decide +kernel
theorem dX18_ask_265 : decode cX18_ask 265 = .ok (.getfield 353, 3) := by decide +kernel
theorem dX18_ask_268 : decode cX18_ask 268 = .ok (.ifCond .eq 15, 3) := by decide +kernel
theorem dX18_ask_271 : decode cX18_ask 271 = .ok (.aload_n 0, 1) := by decide +kernel
theorem dX18_ask_272 : decode cX18_ask 272 = .ok (.iload 8, 2) := by decide +kernel
theorem dX18_ask_274 : decode cX18_ask 274 = .ok (.putfield 152, 3) := by decide +kernel
theorem dX18_ask_277 : decode cX18_ask 277 = .ok (.aload_n 0, 1) := by decide +kernel
theorem dX18_ask_278 : decode cX18_ask 278 = .ok (.iconst 4, 1) := by decide +kernel
theorem dX18_ask_279 : decode cX18_ask 279 = .ok (.invokevirtual 141, 3) := by decide +kernel
theorem dX18_ask_282 : decode cX18_ask 282 = .ok (.ireturn, 1) := by decide +kernel
theorem dX18_ask_283 : decode cX18_ask 283 = .ok (.aload_n 0, 1) := by decide +kernel
theorem dX18_ask_284 : decode cX18_ask 284 = .ok (.iconst 1, 1) := by decide +kernel
theorem dX18_ask_285 : decode cX18_ask 285 = .ok (.putfield 234, 3) := by decide +kernel
theorem dX18_ask_288 : decode cX18_ask 288 = .ok (.aload_n 0, 1) := by decide +kernel
theorem dX18_ask_289 : decode cX18_ask 289 = .ok (.dup, 1) := by decide +kernel
theorem dX18_ask_290 : decode cX18_ask 290 = .ok (.getfield 227, 3) := by decide +kernel
theorem dX18_ask_293 : decode cX18_ask 293 = .ok (.iconst 1, 1) := by decide +kernel
theorem dX18_ask_294 : decode cX18_ask 294 = .ok (.iadd, 1) := by decide +kernel
theorem dX18_ask_295 : decode cX18_ask 295 = .ok (.putfield 227, 3) := by decide +kernel
theorem dX18_ask_298 : decode cX18_ask 298 = .ok (.aload_n 0, 1) := by decide +kernel
theorem dX18_ask_299 : decode cX18_ask 299 = .ok (.iload_n 1, 1) := by decide +kernel
theorem dX18_ask_300 : decode cX18_ask 300 = .ok (.putfield 400, 3) := by decide +kernel
theorem dX18_ask_303 : decode cX18_ask 303 = .ok (.aload_n 0, 1) := by decide +kernel
theorem dX18_ask_304 : decode cX18_ask 304 = .ok (.iload_n 2, 1) := by decide +kernel
theorem dX18_ask_305 : decode cX18_ask 305 = .ok (.putfield 403, 3) := by decide +kernel
theorem dX18_ask_308 : decode cX18_ask 308 = .ok (.aload_n 0, 1) := by decide +kernel
theorem dX18_ask_309 : decode cX18_ask 309 = .ok (.aload_n 0, 1) := by decide +kernel
theorem dX18_ask_310 : decode cX18_ask 310 = .ok (.getfield 274, 3) := by decide +kernel
theorem dX18_ask_313 : decode cX18_ask 313 = .ok (.ifCond .eq 8, 3) := by decide +kernel
theorem dX18_ask_316 : decode cX18_ask 316 = .ok (.bipush 108, 2) := by decide +kernel
theorem dX18_ask_318 : decode cX18_ask 318 = .ok (.goto 5, 3) := by decide +kernel
theorem dX18_ask_321 : decode cX18_ask 321 = .ok (.bipush 101, 2) := by decide +kernel
theorem dX18_ask_323 : decode cX18_ask 323 = .ok (.putfield 406, 3) := by decide +kernel
theorem dX18_ask_326 : decode cX18_ask 326 = .ok (.aload_n 0, 1) := by decide +kernel
theorem dX18_ask_327 : decode cX18_ask 327 = .ok (.aload_n 0, 1) := by decide +kernel
theorem dX18_ask_328 : decode cX18_ask 328 = .ok (.getfield 350, 3) := by decide +kernel
theorem dX18_ask_331 : decode cX18_ask 331 = .ok (.putfield 410, 3) := by decide +kernel
theorem dX18_ask_334 : decode cX18_ask 334 = .ok (.aload_n 0, 1) := by decide +kernel
theorem dX18_ask_335 : decode cX18_ask 335 = .ok (.aload_n 0, 1) := by decide +kernel
theorem dX18_ask_336 : decode cX18_ask 336 = .ok (.getfield 356, 3) := by decide +kernel
theorem dX18_ask_339 : decode cX18_ask 339 = .ok (.putfield 412, 3) := by decide +kernel
theorem dX18_ask_342 : decode cX18_ask 342 = .ok (.aload_n 0, 1) := by decide +kernel
theorem dX18_ask_343 : decode cX18_ask 343 = .ok (.dup, 1) := by decide +kernel
theorem dX18_ask_344 : decode cX18_ask 344 = .ok (.getfield 230, 3) := by decide +kernel
theorem dX18_ask_347 : decode cX18_ask 347 = .ok (.aload_n 0, 1) := by decide +kernel
theorem dX18_ask_348 : decode cX18_ask 348 = .ok (.getfield 412, 3) := by decide +kernel
theorem dX18_ask_351 : decode cX18_ask 351 = .ok (.i2l, 1) := by decide +kernel
theorem dX18_ask_352 : decode cX18_ask 352 = .ok (.ladd, 1) := by decide +kernel
theorem dX18_ask_353 : decode cX18_ask 353 = .ok (.putfield 230, 3) := by decide +kernel
theorem dX18_ask_356 : decode cX18_ask 356 = .ok (.aload_n 0, 1) := by decide +kernel
theorem dX18_ask_357 : decode cX18_ask 357 = .ok (.aload_n 0, 1) := by decide +kernel
theorem dX18_ask_358 : decode cX18_ask 358 = .ok (.getfield 305, 3) := by decide +kernel
theorem dX18_ask_361 : decode cX18_ask 361 = .ok (.putfield 415, 3) := by decide +kernel
theorem dX18_ask_364 : decode cX18_ask 364 = .ok (.aload_n 0, 1) := by decide +kernel
theorem dX18_ask_365 : decode cX18_ask 365 = .ok (.aload_n 0, 1) := by decide +kernel
theorem dX18_ask_366 : decode cX18_ask 366 = .ok (.getfield 281, 3) := by decide +kernel
theorem dX18_ask_369 : decode cX18_ask 369 = .ok (.putfield 418, 3) := by decide +kernel
theorem dX18_ask_372 : decode cX18_ask 372 = .ok (.aload_n 0, 1) := by decide +kernel
theorem dX18_ask_373 : decode cX18_ask 373 = .ok (.aload_n 0, 1) := by decide +kernel
theorem dX18_ask_374 : decode cX18_ask 374 = .ok (.getfield 255, 3) := by decide +kernel
theorem dX18_ask_377 : decode cX18_ask 377 = .ok (.putfield 421, 3) := by decide +kernel
theorem dX18_ask_380 : decode cX18_ask 380 = .ok (.iconst 0, 1) := by decide +kernel
theorem dX18_ask_381 : decode cX18_ask 381 = .ok (.istore 10, 2) := by decide +kernel
theorem dX18_ask_383 : decode cX18_ask 383 = .ok (.iload 10, 2) := by decide +kernel
theorem dX18_ask_385 : decode cX18_ask 385 = .ok (.iconst 3, 1) := by decide +kernel
theorem dX18_ask_386 : decode cX18_ask 386 = .ok (.if_icmp .ge 21, 3) := by decide +kernel
theorem dX18_ask_389 : decode cX18_ask 389 = .ok (.aload_n 0, 1) := by decide +kernel
theorem dX18_ask_390 : decode cX18_ask 390 = .ok (.getfield 91, 3) := by decide +kernel
theorem dX18_ask_393 : decode cX18_ask 393 = .ok (.iload 10, 2) := by decide +kernel
theorem dX18_ask_395 : decode cX18_ask 395 = .ok (.aload 6, 2) := by decide +kernel
theorem dX18_ask_397 : decode cX18_ask 397 = .ok (.iload 10, 2) := by decide +kernel
theorem dX18_ask_399 : decode cX18_ask 399 = .ok (.iaload, 1) := by decide +kernel
theorem dX18_ask_400 : decode cX18_ask 400 = .ok (.iastore, 1) := by decide +kernel
theorem dX18_ask_401 : decode cX18_ask 401 = .ok (.iinc 10 1, 3) := by decide +kernel
theorem dX18_ask_404 : decode cX18_ask 404 = .ok (.goto (-21), 3) := by decide +kernel
theorem dX18_ask_407 : decode cX18_ask 407 = .ok (.iconst 0, 1) := by decide +kernel
theorem dX18_ask_408 : decode cX18_ask 408 = .ok (.istore 10, 2) := by decide +kernel
theorem dX18_ask_410 : decode cX18_ask 410 = .ok (.iload 10, 2) := by decide +kernel
theorem dX18_ask_412 : decode cX18_ask 412 = .ok (.sipush 150, 3) := by decide +kernel
theorem dX18_ask_415 : decode cX18_ask 415 = .ok (.if_icmp .ge 23, 3) := by decide +kernel
theorem dX18_ask_418 : decode cX18_ask 418 = .ok (.aload_n 0, 1) := by decide +kernel
theorem dX18_ask_419 : decode cX18_ask 419 = .ok (.getfield 94, 3) := by decide +kernel
theorem dX18_ask_422 : decode cX18_ask 422 = .ok (.iload 10, 2) := by decide +kernel
theorem dX18_ask_424 : decode cX18_ask 424 = .ok (.aload_n 0, 1) := by decide +kernel
theorem dX18_ask_425 : decode cX18_ask 425 = .ok (.getfield 103, 3) := by decide +kernel
theorem dX18_ask_428 : decode cX18_ask 428 = .ok (.iload 10, 2) := by decide +kernel
theorem dX18_ask_430 : decode cX18_ask 430 = .ok (.iaload, 1) := by decide +kernel
theorem dX18_ask_431 : decode cX18_ask 431 = .ok (.iastore, 1) := by decide +kernel
theorem dX18_ask_432 : decode cX18_ask 432 = .ok (.iinc 10 1, 3) := by decide +kernel
theorem dX18_ask_435 : decode cX18_ask 435 = .ok (.goto (-25), 3) := by decide +kernel
theorem dX18_ask_438 : decode cX18_ask 438 = .ok (.iconst 0, 1) := by decide +kernel
theorem dX18_ask_439 : decode cX18_ask 439 = .ok (.istore 10, 2) := by decide +kernel
theorem dX18_ask_441 : decode cX18_ask 441 = .ok (.iload 10, 2) := by decide +kernel
theorem dX18_ask_443 : decode cX18_ask 443 = .ok (.bipush 80, 2) := by decide +kernel
theorem dX18_ask_445 : decode cX18_ask 445 = .ok (.if_icmp .ge 37, 3) := by decide +kernel
theorem dX18_ask_448 : decode cX18_ask 448 = .ok (.aload_n 0, 1) := by decide +kernel
theorem dX18_ask_449 : decode cX18_ask 449 = .ok (.getfield 97, 3) := by decide +kernel
theorem dX18_ask_452 : decode cX18_ask 452 = .ok (.iload 10, 2) := by decide +kernel
theorem dX18_ask_454 : decode cX18_ask 454 = .ok (.aload_n 0, 1) := by decide +kernel
theorem dX18_ask_455 : decode cX18_ask 455 = .ok (.getfield 106, 3) := by decide +kernel
theorem dX18_ask_458 : decode cX18_ask 458 = .ok (.iload 10, 2) := by decide +kernel
theorem dX18_ask_460 : decode cX18_ask 460 = .ok (.caload, 1) := by decide +kernel
theorem dX18_ask_461 : decode cX18_ask 461 = .ok (.castore, 1) := by decide +kernel
theorem dX18_ask_462 : decode cX18_ask 462 = .ok (.aload_n 0, 1) := by decide +kernel
theorem dX18_ask_463 : decode cX18_ask 463 = .ok (.getfield 100, 3) := by decide +kernel
theorem dX18_ask_466 : decode cX18_ask 466 = .ok (.iload 10, 2) := by decide +kernel
theorem dX18_ask_468 : decode cX18_ask 468 = .ok (.aload_n 0, 1) := by decide +kernel
theorem dX18_ask_469 : decode cX18_ask 469 = .ok (.getfield 109, 3) := by decide +kernel
theorem dX18_ask_472 : decode cX18_ask 472 = .ok (.iload 10, 2) := by decide +kernel
theorem dX18_ask_474 : decode cX18_ask 474 = .ok (.iaload, 1) := by decide +kernel
theorem dX18_ask_475 : decode cX18_ask 475 = .ok (.iastore, 1) := by decide +kernel
theorem dX18_ask_476 : decode cX18_ask 476 = .ok (.iinc 10 1, 3) := by decide +kernel
theorem dX18_ask_479 : decode cX18_ask 479 = .ok (.goto (-38), 3) := by decide +kernel
theorem dX18_ask_482 : decode cX18_ask 482 = .ok (.aload_n 0, 1) := by decide +kernel
theorem dX18_ask_483 : decode cX18_ask 483 = .ok (.getfield 410, 3) := by decide +kernel
theorem dX18_ask_486 : decode cX18_ask 486 = .ok (.ireturn, 1) := by decide +kernel
theorem dX18_wasAsked_0 : decode cX18_wasAsked 0 = .ok (.aload_n 0, 1) := by decide +kernel
theorem dX18_wasAsked_1 : decode cX18_wasAsked 1 = .ok (.aload_n 0, 1) := by decide +kernel
theorem dX18_wasAsked_2 : decode cX18_wasAsked 2 = .ok (.getfield 234, 3) := by decide +kernel
theorem dX18_wasAsked_5 : decode cX18_wasAsked 5 = .ok (.ifCond .eq 7, 3) := by decide +kernel
theorem dX18_wasAsked_8 : decode cX18_wasAsked 8 = .ok (.iconst 0, 1) := by decide +kernel
theorem dX18_wasAsked_9 : decode cX18_wasAsked 9 = .ok (.goto 4, 3) := by decide +kernel
theorem dX18_wasAsked_12 : decode cX18_wasAsked 12 = .ok (.iconst 1, 1) := by decide +kernel
theorem dX18_wasAsked_13 : decode cX18_wasAsked 13 = .ok (.putfield 130, 3) := by decide +kernel
theorem dX18_wasAsked_16 : decode cX18_wasAsked 16 = .ok (.aload_n 0, 1) := by decide +kernel
theorem dX18_wasAsked_17 : decode cX18_wasAsked 17 = .ok (.getfield 234, 3) := by decide +kernel
theorem dX18_wasAsked_20 : decode cX18_wasAsked 20 = .ok (.ireturn, 1) := by decide +kernel
set_option maxRecDepth 20000 in
theorem ggX18_ending_X18_wasAsked : GoodIn wsX18_ending wsX18_wasAsked := goodIn_r _ [6, 7, 8, 9, 10, 11, 12, 13, 14, 15, 16, 17, 18, 19, 20, 21, 22, 23, 24, 25, 26, 27, 28, 29, 30, 31, 32, 33, 34, 35, 36, 37, 38, 39, 40, 41, 42, 43, 44, 45, 46, 47, 48, 49, 50, 51, 52, 53, 54, 55, 56, 57, 58, 59, 60, 61, 62, 63, 64, 65, 66, 67, 68, 69, 70, 71, 72, 73, 74, 75, 76, 77, 78] (by decide +kernel) (by decide +kernel)
set_option maxRecDepth 20000 in
theorem gX18_ending_X18_wasAsked : GoodIn wsX18_ending (wsV RX18 424 RX18 yX18_wasAsked wsX18_wasAsked) := goodIn_app (goodIn_of _ (by decide +kernel)) ggX18_ending_X18_wasAsked
theorem dX18_ending_0 : decode cX18_ending 0 = .ok (.aload_n 0, 1) := by decide +kernel
theorem dX18_ending_1 : decode cX18_ending 1 = .ok (.invokevirtual 424, 3) := by decide +kernel
theorem dX18_ending_4 : decode cX18_ending 4 = .ok (.ifCond .eq 10, 3) := by decide +kernel
theorem dX18_ending_7 : decode cX18_ending 7 = .ok (.aload_n 0, 1) := by decide +kernel
theorem dX18_ending_8 : decode cX18_ending 8 = .ok (.getfield 406, 3) := by decide +kernel
theorem dX18_ending_11 : decode cX18_ending 11 = .ok (.goto 4, 3) := by decide +kernel
theorem dX18_ending_14 : decode cX18_ending 14 = .ok (.iconst 0, 1) := by decide +kernel
theorem dX18_ending_15 : decode cX18_ending 15 = .ok (.ireturn, 1) := by decide +kernel
set_option maxRecDepth 20000 in
theorem ggX18_answerAt_X18_wasAsked : GoodIn wsX18_answerAt wsX18_wasAsked := goodIn_r _ [9, 10, 11, 19, 20, 21, 22, 23, 24, 25, 26, 27, 28, 29, 30, 31, 32, 33, 34, 35, 36, 37, 38, 39, 40, 41, 42, 43, 44, 45, 46, 47, 48, 49, 50, 51, 52, 53, 54, 55, 56, 57, 58, 59, 60, 61, 62, 63, 64, 65, 66, 67, 68, 69, 70, 71, 72, 73, 74, 75, 76, 77, 78, 79, 80, 81, 82, 83, 84, 85, 86, 87, 88] (by decide +kernel) (by decide +kernel)
set_option maxRecDepth 20000 in
theorem gX18_answerAt_X18_wasAsked : GoodIn wsX18_answerAt (wsV RX18 424 RX18 yX18_wasAsked wsX18_wasAsked) := goodIn_app (goodIn_of _ (by decide +kernel)) ggX18_answerAt_X18_wasAsked
set_option maxRecDepth 20000 in
theorem ggX18_answerAt_X18_in : GoodIn wsX18_answerAt wsX18_in := goodIn_r _ [14] (by decide +kernel) (by decide +kernel)
set_option maxRecDepth 20000 in
theorem gX18_answerAt_X18_in : GoodIn wsX18_answerAt (va_wsS RX18 145 yX18_in wsX18_in) := goodIn_app (goodIn_of _ (by decide +kernel)) ggX18_answerAt_X18_in
set_option maxRecDepth 20000 in
theorem ggX18_answerAt_X18_fails : GoodIn wsX18_answerAt wsX18_fails := goodIn_r _ [18, 11, 19, 20, 21, 22, 23, 24, 25, 26, 27, 28, 29, 30, 31, 32, 33, 34, 35, 36, 37, 38, 39, 40, 41, 42, 43, 44, 45, 46, 47, 48, 49, 50, 51, 52, 53, 54, 55, 56, 57, 58, 59, 60, 61, 62, 63, 64, 65, 66, 67, 68, 69, 70, 71, 72, 73, 74, 75, 76, 77, 78, 79, 80, 81, 82, 83, 84, 85, 86, 87, 88] (by decide +kernel) (by decide +kernel)
set_option maxRecDepth 20000 in
theorem gX18_answerAt_X18_fails : GoodIn wsX18_answerAt (wsV RX18 141 RX18 yX18_fails wsX18_fails) := goodIn_app (goodIn_of _ (by decide +kernel)) ggX18_answerAt_X18_fails
theorem dX18_answerAt_0 : decode cX18_answerAt 0 = .ok (.aload_n 0, 1) := by decide +kernel
theorem dX18_answerAt_1 : decode cX18_answerAt 1 = .ok (.invokevirtual 424, 3) := by decide +kernel
theorem dX18_answerAt_4 : decode cX18_answerAt 4 = .ok (.ifCond .ne 5, 3) := by decide +kernel
theorem dX18_answerAt_7 : decode cX18_answerAt 7 = .ok (.iconst 0, 1) := by decide +kernel
theorem dX18_answerAt_8 : decode cX18_answerAt 8 = .ok (.ireturn, 1) := by decide +kernel
theorem dX18_answerAt_9 : decode cX18_answerAt 9 = .ok (.iload_n 1, 1) := by decide +kernel
theorem dX18_answerAt_10 : decode cX18_answerAt 10 = .ok (.iconst 0, 1) := by decide +kernel
theorem dX18_answerAt_11 : decode cX18_answerAt 11 = .ok (.aload_n 0, 1) := by decide +kernel
theorem dX18_answerAt_12 : decode cX18_answerAt 12 = .ok (.getfield 410, 3) := by decide +kernel
theorem dX18_answerAt_15 : decode cX18_answerAt 15 = .ok (.iconst 1, 1) := by decide +kernel
theorem dX18_answerAt_16 : decode cX18_answerAt 16 = .ok (.isub, 1) := by decide +kernel
theorem dX18_answerAt_17 : decode cX18_answerAt 17 = .ok (.invokestatic 145, 3) := by decide +kernel
theorem dX18_answerAt_20 : decode cX18_answerAt 20 = .ok (.ifCond .eq 35, 3) := by decide +kernel
theorem dX18_answerAt_23 : decode cX18_answerAt 23 = .ok (.iload_n 2, 1) := by decide +kernel
theorem dX18_answerAt_24 : decode cX18_answerAt 24 = .ok (.iconst 0, 1) := by decide +kernel
theorem dX18_answerAt_25 : decode cX18_answerAt 25 = .ok (.aload_n 0, 1) := by decide +kernel
theorem dX18_answerAt_26 : decode cX18_answerAt 26 = .ok (.getfield 26, 3) := by decide +kernel
theorem dX18_answerAt_29 : decode cX18_answerAt 29 = .ok (.aload_n 0, 1) := by decide +kernel
theorem dX18_answerAt_30 : decode cX18_answerAt 30 = .ok (.getfield 400, 3) := by decide +kernel
theorem dX18_answerAt_33 : decode cX18_answerAt 33 = .ok (.iaload, 1) := by decide +kernel
theorem dX18_answerAt_34 : decode cX18_answerAt 34 = .ok (.iconst 1, 1) := by decide +kernel
theorem dX18_answerAt_35 : decode cX18_answerAt 35 = .ok (.isub, 1) := by decide +kernel
theorem dX18_answerAt_36 : decode cX18_answerAt 36 = .ok (.invokestatic 145, 3) := by decide +kernel
theorem dX18_answerAt_39 : decode cX18_answerAt 39 = .ok (.ifCond .eq 16, 3) := by decide +kernel
theorem dX18_answerAt_42 : decode cX18_answerAt 42 = .ok (.aload_n 0, 1) := by decide +kernel
theorem dX18_answerAt_43 : decode cX18_answerAt 43 = .ok (.getfield 94, 3) := by decide +kernel
theorem dX18_answerAt_46 : decode cX18_answerAt 46 = .ok (.iconst 3, 1) := by decide +kernel
theorem dX18_answerAt_47 : decode cX18_answerAt 47 = .ok (.iload_n 1, 1) := by decide +kernel
theorem dX18_answerAt_48 : decode cX18_answerAt 48 = .ok (.imul, 1) := by decide +kernel
theorem dX18_answerAt_49 : decode cX18_answerAt 49 = .ok (.iload_n 2, 1) := by decide +kernel
theorem dX18_answerAt_50 : decode cX18_answerAt 50 = .ok (.iadd, 1) := by decide +kernel
theorem dX18_answerAt_51 : decode cX18_answerAt 51 = .ok (.iaload, 1) := by decide +kernel
theorem dX18_answerAt_52 : decode cX18_answerAt 52 = .ok (.goto 8, 3) := by decide +kernel
theorem dX18_answerAt_55 : decode cX18_answerAt 55 = .ok (.aload_n 0, 1) := by decide +kernel
theorem dX18_answerAt_56 : decode cX18_answerAt 56 = .ok (.iconst 2, 1) := by decide +kernel
theorem dX18_answerAt_57 : decode cX18_answerAt 57 = .ok (.invokevirtual 141, 3) := by decide +kernel
theorem dX18_answerAt_60 : decode cX18_answerAt 60 = .ok (.ireturn, 1) := by decide +kernel
set_option maxRecDepth 20000 in
theorem ggX18_multiplicity_X18_wasAsked : GoodIn wsX18_multiplicity wsX18_wasAsked := goodIn_r _ [9, 10, 11, 19, 20, 21, 22, 23, 24, 25, 26, 27, 28, 29, 30, 31, 32, 33, 34, 35, 36, 37, 38, 39, 40, 41, 42, 43, 44, 45, 46, 47, 48, 49, 50, 51, 52, 53, 54, 55, 56, 57, 58, 59, 60, 61, 62, 63, 64, 65, 66, 67, 68, 69, 70, 71, 72, 73, 74, 75, 76, 77, 78, 79, 80, 81, 82, 83, 84, 85, 86, 87, 88] (by decide +kernel) (by decide +kernel)
set_option maxRecDepth 20000 in
theorem gX18_multiplicity_X18_wasAsked : GoodIn wsX18_multiplicity (wsV RX18 424 RX18 yX18_wasAsked wsX18_wasAsked) := goodIn_app (goodIn_of _ (by decide +kernel)) ggX18_multiplicity_X18_wasAsked
set_option maxRecDepth 20000 in
theorem ggX18_multiplicity_X18_in : GoodIn wsX18_multiplicity wsX18_in := goodIn_r _ [14] (by decide +kernel) (by decide +kernel)
set_option maxRecDepth 20000 in
theorem gX18_multiplicity_X18_in : GoodIn wsX18_multiplicity (va_wsS RX18 145 yX18_in wsX18_in) := goodIn_app (goodIn_of _ (by decide +kernel)) ggX18_multiplicity_X18_in
set_option maxRecDepth 20000 in
theorem ggX18_multiplicity_X18_fails : GoodIn wsX18_multiplicity wsX18_fails := goodIn_r _ [18, 11, 19, 20, 21, 22, 23, 24, 25, 26, 27, 28, 29, 30, 31, 32, 33, 34, 35, 36, 37, 38, 39, 40, 41, 42, 43, 44, 45, 46, 47, 48, 49, 50, 51, 52, 53, 54, 55, 56, 57, 58, 59, 60, 61, 62, 63, 64, 65, 66, 67, 68, 69, 70, 71, 72, 73, 74, 75, 76, 77, 78, 79, 80, 81, 82, 83, 84, 85, 86, 87, 88] (by decide +kernel) (by decide +kernel)
set_option maxRecDepth 20000 in
theorem gX18_multiplicity_X18_fails : GoodIn wsX18_multiplicity (wsV RX18 141 RX18 yX18_fails wsX18_fails) := goodIn_app (goodIn_of _ (by decide +kernel)) ggX18_multiplicity_X18_fails
theorem dX18_multiplicity_0 : decode cX18_multiplicity 0 = .ok (.aload_n 0, 1) := by decide +kernel
theorem dX18_multiplicity_1 : decode cX18_multiplicity 1 = .ok (.invokevirtual 424, 3) := by decide +kernel
theorem dX18_multiplicity_4 : decode cX18_multiplicity 4 = .ok (.ifCond .ne 5, 3) := by decide +kernel
theorem dX18_multiplicity_7 : decode cX18_multiplicity 7 = .ok (.iconst 0, 1) := by decide +kernel
theorem dX18_multiplicity_8 : decode cX18_multiplicity 8 = .ok (.ireturn, 1) := by decide +kernel
theorem dX18_multiplicity_9 : decode cX18_multiplicity 9 = .ok (.iload_n 1, 1) := by decide +kernel
theorem dX18_multiplicity_10 : decode cX18_multiplicity 10 = .ok (.iconst 0, 1) := by decide +kernel
theorem dX18_multiplicity_11 : decode cX18_multiplicity 11 = .ok (.aload_n 0, 1) := by decide +kernel
theorem dX18_multiplicity_12 : decode cX18_multiplicity 12 = .ok (.getfield 410, 3) := by decide +kernel
theorem dX18_multiplicity_15 : decode cX18_multiplicity 15 = .ok (.iconst 1, 1) := by decide +kernel
theorem dX18_multiplicity_16 : decode cX18_multiplicity 16 = .ok (.isub, 1) := by decide +kernel
theorem dX18_multiplicity_17 : decode cX18_multiplicity 17 = .ok (.invokestatic 145, 3) := by decide +kernel
theorem dX18_multiplicity_20 : decode cX18_multiplicity 20 = .ok (.ifCond .ne 9, 3) := by decide +kernel
theorem dX18_multiplicity_23 : decode cX18_multiplicity 23 = .ok (.aload_n 0, 1) := by decide +kernel
theorem dX18_multiplicity_24 : decode cX18_multiplicity 24 = .ok (.iconst 2, 1) := by decide +kernel
theorem dX18_multiplicity_25 : decode cX18_multiplicity 25 = .ok (.invokevirtual 141, 3) := by decide +kernel
theorem dX18_multiplicity_28 : decode cX18_multiplicity 28 = .ok (.ireturn, 1) := by decide +kernel
theorem dX18_multiplicity_29 : decode cX18_multiplicity 29 = .ok (.iconst 0, 1) := by decide +kernel
theorem dX18_multiplicity_30 : decode cX18_multiplicity 30 = .ok (.istore_n 2, 1) := by decide +kernel
theorem dX18_multiplicity_31 : decode cX18_multiplicity 31 = .ok (.iconst 0, 1) := by decide +kernel
theorem dX18_multiplicity_32 : decode cX18_multiplicity 32 = .ok (.istore_n 3, 1) := by decide +kernel
theorem dX18_multiplicity_33 : decode cX18_multiplicity 33 = .ok (.iload_n 3, 1) := by decide +kernel
theorem dX18_multiplicity_34 : decode cX18_multiplicity 34 = .ok (.aload_n 0, 1) := by decide +kernel
theorem dX18_multiplicity_35 : decode cX18_multiplicity 35 = .ok (.getfield 410, 3) := by decide +kernel
theorem dX18_multiplicity_38 : decode cX18_multiplicity 38 = .ok (.if_icmp .ge 85, 3) := by decide +kernel
theorem dX18_multiplicity_41 : decode cX18_multiplicity 41 = .ok (.iconst 1, 1) := by decide +kernel
theorem dX18_multiplicity_42 : decode cX18_multiplicity 42 = .ok (.istore 4, 2) := by decide +kernel
theorem dX18_multiplicity_44 : decode cX18_multiplicity 44 = .ok (.iconst 0, 1) := by decide +kernel
theorem dX18_multiplicity_45 : decode cX18_multiplicity 45 = .ok (.istore 5, 2) := by decide +kernel
theorem dX18_multiplicity_47 : decode cX18_multiplicity 47 = .ok (.iload 5, 2) := by decide +kernel
theorem dX18_multiplicity_49 : decode cX18_multiplicity 49 = .ok (.aload_n 0, 1) := by decide +kernel
theorem dX18_multiplicity_50 : decode cX18_multiplicity 50 = .ok (.getfield 26, 3) := by decide +kernel
theorem dX18_multiplicity_53 : decode cX18_multiplicity 53 = .ok (.aload_n 0, 1) := by decide +kernel
theorem dX18_multiplicity_54 : decode cX18_multiplicity 54 = .ok (.getfield 400, 3) := by decide +kernel
theorem dX18_multiplicity_57 : decode cX18_multiplicity 57 = .ok (.iaload, 1) := by decide +kernel
theorem dX18_multiplicity_58 : decode cX18_multiplicity 58 = .ok (.if_icmp .ge 46, 3) := by decide +kernel
theorem dX18_multiplicity_61 : decode cX18_multiplicity 61 = .ok (.iload 4, 2) := by decide +kernel
theorem dX18_multiplicity_63 : decode cX18_multiplicity 63 = .ok (.ifCond .eq 32, 3) := by decide +kernel
theorem dX18_multiplicity_66 : decode cX18_multiplicity 66 = .ok (.aload_n 0, 1) := by decide +kernel
theorem dX18_multiplicity_67 : decode cX18_multiplicity 67 = .ok (.getfield 94, 3) := by decide +kernel
theorem dX18_multiplicity_70 : decode cX18_multiplicity 70 = .ok (.iconst 3, 1) := by decide +kernel
theorem dX18_multiplicity_71 : decode cX18_multiplicity 71 = .ok (.iload_n 3, 1) := by decide +kernel
theorem dX18_multiplicity_72 : decode cX18_multiplicity 72 = .ok (.imul, 1) := by decide +kernel
theorem dX18_multiplicity_73 : decode cX18_multiplicity 73 = .ok (.iload 5, 2) := by decide +kernel
theorem dX18_multiplicity_75 : decode cX18_multiplicity 75 = .ok (.iadd, 1) := by decide +kernel
theorem dX18_multiplicity_76 : decode cX18_multiplicity 76 = .ok (.iaload, 1) := by decide +kernel
theorem dX18_multiplicity_77 : decode cX18_multiplicity 77 = .ok (.aload_n 0, 1) := by decide +kernel
theorem dX18_multiplicity_78 : decode cX18_multiplicity 78 = .ok (.getfield 94, 3) := by decide +kernel
theorem dX18_multiplicity_81 : decode cX18_multiplicity 81 = .ok (.iconst 3, 1) := by decide +kernel
theorem dX18_multiplicity_82 : decode cX18_multiplicity 82 = .ok (.iload_n 1, 1) := by decide +kernel
theorem dX18_multiplicity_83 : decode cX18_multiplicity 83 = .ok (.imul, 1) := by decide +kernel
theorem dX18_multiplicity_84 : decode cX18_multiplicity 84 = .ok (.iload 5, 2) := by decide +kernel
theorem dX18_multiplicity_86 : decode cX18_multiplicity 86 = .ok (.iadd, 1) := by decide +kernel
theorem dX18_multiplicity_87 : decode cX18_multiplicity 87 = .ok (.iaload, 1) := by decide +kernel
theorem dX18_multiplicity_88 : decode cX18_multiplicity 88 = .ok (.if_icmp .ne 7, 3) := by decide +kernel
theorem dX18_multiplicity_91 : decode cX18_multiplicity 91 = .ok (.iconst 1, 1) := by decide +kernel
theorem dX18_multiplicity_92 : decode cX18_multiplicity 92 = .ok (.goto 4, 3) := by decide +kernel
theorem dX18_multiplicity_95 : decode cX18_multiplicity 95 = .ok (.iconst 0, 1) := by decide +kernel
theorem dX18_multiplicity_96 : decode cX18_multiplicity 96 = .ok (.istore 4, 2) := by decide +kernel
theorem dX18_multiplicity_98 : decode cX18_multiplicity 98 = .ok (.iinc 5 1, 3) := by decide +kernel
theorem dX18_multiplicity_101 : decode cX18_multiplicity 101 = .ok (.goto (-54), 3) := by decide +kernel
theorem dX18_multiplicity_104 : decode cX18_multiplicity 104 = .ok (.iload_n 2, 1) := by decide +kernel
theorem dX18_multiplicity_105 : decode cX18_multiplicity 105 = .ok (.iload 4, 2) := by decide +kernel
theorem dX18_multiplicity_107 : decode cX18_multiplicity 107 = .ok (.ifCond .eq 7, 3) := by decide +kernel
theorem dX18_multiplicity_110 : decode cX18_multiplicity 110 = .ok (.iconst 1, 1) := by decide +kernel
theorem dX18_multiplicity_111 : decode cX18_multiplicity 111 = .ok (.goto 4, 3) := by decide +kernel
theorem dX18_multiplicity_114 : decode cX18_multiplicity 114 = .ok (.iconst 0, 1) := by decide +kernel
theorem dX18_multiplicity_115 : decode cX18_multiplicity 115 = .ok (.iadd, 1) := by decide +kernel
theorem dX18_multiplicity_116 : decode cX18_multiplicity 116 = .ok (.istore_n 2, 1) := by decide +kernel
theorem dX18_multiplicity_117 : decode cX18_multiplicity 117 = .ok (.iinc 3 1, 3) := by decide +kernel
theorem dX18_multiplicity_120 : decode cX18_multiplicity 120 = .ok (.goto (-87), 3) := by decide +kernel
theorem dX18_multiplicity_123 : decode cX18_multiplicity 123 = .ok (.iload_n 2, 1) := by decide +kernel
theorem dX18_multiplicity_124 : decode cX18_multiplicity 124 = .ok (.ireturn, 1) := by decide +kernel
set_option maxRecDepth 20000 in
theorem ggX18_steps_X18_wasAsked : GoodIn wsX18_steps wsX18_wasAsked := goodIn_r _ [6, 7, 8, 9, 10, 11, 12, 13, 14, 15, 16, 17, 18, 19, 20, 21, 22, 23, 24, 25, 26, 27, 28, 29, 30, 31, 32, 33, 34, 35, 36, 37, 38, 39, 40, 41, 42, 43, 44, 45, 46, 47, 48, 49, 50, 51, 52, 53, 54, 55, 56, 57, 58, 59, 60, 61, 62, 63, 64, 65, 66, 67, 68, 69, 70, 71, 72, 73, 74, 75, 76, 77, 78] (by decide +kernel) (by decide +kernel)
set_option maxRecDepth 20000 in
theorem gX18_steps_X18_wasAsked : GoodIn wsX18_steps (wsV RX18 424 RX18 yX18_wasAsked wsX18_wasAsked) := goodIn_app (goodIn_of _ (by decide +kernel)) ggX18_steps_X18_wasAsked
theorem dX18_steps_0 : decode cX18_steps 0 = .ok (.aload_n 0, 1) := by decide +kernel
theorem dX18_steps_1 : decode cX18_steps 1 = .ok (.invokevirtual 424, 3) := by decide +kernel
theorem dX18_steps_4 : decode cX18_steps 4 = .ok (.ifCond .eq 10, 3) := by decide +kernel
theorem dX18_steps_7 : decode cX18_steps 7 = .ok (.aload_n 0, 1) := by decide +kernel
theorem dX18_steps_8 : decode cX18_steps 8 = .ok (.getfield 412, 3) := by decide +kernel
theorem dX18_steps_11 : decode cX18_steps 11 = .ok (.goto 4, 3) := by decide +kernel
theorem dX18_steps_14 : decode cX18_steps 14 = .ok (.iconst 0, 1) := by decide +kernel
theorem dX18_steps_15 : decode cX18_steps 15 = .ok (.ireturn, 1) := by decide +kernel
set_option maxRecDepth 20000 in
theorem ggX18_choicePoints_X18_wasAsked : GoodIn wsX18_choicePoints wsX18_wasAsked := goodIn_r _ [6, 7, 8, 9, 10, 11, 12, 13, 14, 15, 16, 17, 18, 19, 20, 21, 22, 23, 24, 25, 26, 27, 28, 29, 30, 31, 32, 33, 34, 35, 36, 37, 38, 39, 40, 41, 42, 43, 44, 45, 46, 47, 48, 49, 50, 51, 52, 53, 54, 55, 56, 57, 58, 59, 60, 61, 62, 63, 64, 65, 66, 67, 68, 69, 70, 71, 72, 73, 74, 75, 76, 77, 78] (by decide +kernel) (by decide +kernel)
set_option maxRecDepth 20000 in
theorem gX18_choicePoints_X18_wasAsked : GoodIn wsX18_choicePoints (wsV RX18 424 RX18 yX18_wasAsked wsX18_wasAsked) := goodIn_app (goodIn_of _ (by decide +kernel)) ggX18_choicePoints_X18_wasAsked
theorem dX18_choicePoints_0 : decode cX18_choicePoints 0 = .ok (.aload_n 0, 1) := by decide +kernel
theorem dX18_choicePoints_1 : decode cX18_choicePoints 1 = .ok (.invokevirtual 424, 3) := by decide +kernel
theorem dX18_choicePoints_4 : decode cX18_choicePoints 4 = .ok (.ifCond .eq 10, 3) := by decide +kernel
theorem dX18_choicePoints_7 : decode cX18_choicePoints 7 = .ok (.aload_n 0, 1) := by decide +kernel
theorem dX18_choicePoints_8 : decode cX18_choicePoints 8 = .ok (.getfield 415, 3) := by decide +kernel
theorem dX18_choicePoints_11 : decode cX18_choicePoints 11 = .ok (.goto 4, 3) := by decide +kernel
theorem dX18_choicePoints_14 : decode cX18_choicePoints 14 = .ok (.iconst 0, 1) := by decide +kernel
theorem dX18_choicePoints_15 : decode cX18_choicePoints 15 = .ok (.ireturn, 1) := by decide +kernel
set_option maxRecDepth 20000 in
theorem ggX18_deepest_X18_wasAsked : GoodIn wsX18_deepest wsX18_wasAsked := goodIn_r _ [6, 7, 8, 9, 10, 11, 12, 13, 14, 15, 16, 17, 18, 19, 20, 21, 22, 23, 24, 25, 26, 27, 28, 29, 30, 31, 32, 33, 34, 35, 36, 37, 38, 39, 40, 41, 42, 43, 44, 45, 46, 47, 48, 49, 50, 51, 52, 53, 54, 55, 56, 57, 58, 59, 60, 61, 62, 63, 64, 65, 66, 67, 68, 69, 70, 71, 72, 73, 74, 75, 76, 77, 78] (by decide +kernel) (by decide +kernel)
set_option maxRecDepth 20000 in
theorem gX18_deepest_X18_wasAsked : GoodIn wsX18_deepest (wsV RX18 424 RX18 yX18_wasAsked wsX18_wasAsked) := goodIn_app (goodIn_of _ (by decide +kernel)) ggX18_deepest_X18_wasAsked
theorem dX18_deepest_0 : decode cX18_deepest 0 = .ok (.aload_n 0, 1) := by decide +kernel
theorem dX18_deepest_1 : decode cX18_deepest 1 = .ok (.invokevirtual 424, 3) := by decide +kernel
theorem dX18_deepest_4 : decode cX18_deepest 4 = .ok (.ifCond .eq 10, 3) := by decide +kernel
theorem dX18_deepest_7 : decode cX18_deepest 7 = .ok (.aload_n 0, 1) := by decide +kernel
theorem dX18_deepest_8 : decode cX18_deepest 8 = .ok (.getfield 418, 3) := by decide +kernel
theorem dX18_deepest_11 : decode cX18_deepest 11 = .ok (.goto 4, 3) := by decide +kernel
theorem dX18_deepest_14 : decode cX18_deepest 14 = .ok (.iconst 0, 1) := by decide +kernel
theorem dX18_deepest_15 : decode cX18_deepest 15 = .ok (.ireturn, 1) := by decide +kernel
set_option maxRecDepth 20000 in
theorem ggX18_recorded_X18_wasAsked : GoodIn wsX18_recorded wsX18_wasAsked := goodIn_r _ [6, 7, 8, 9, 10, 11, 12, 13, 14, 15, 16, 17, 18, 19, 20, 21, 22, 23, 24, 25, 26, 27, 28, 29, 30, 31, 32, 33, 34, 35, 36, 37, 38, 39, 40, 41, 42, 43, 44, 45, 46, 47, 48, 49, 50, 51, 52, 53, 54, 55, 56, 57, 58, 59, 60, 61, 62, 63, 64, 65, 66, 67, 68, 69, 70, 71, 72, 73, 74, 75, 76, 77, 78] (by decide +kernel) (by decide +kernel)
set_option maxRecDepth 20000 in
theorem gX18_recorded_X18_wasAsked : GoodIn wsX18_recorded (wsV RX18 424 RX18 yX18_wasAsked wsX18_wasAsked) := goodIn_app (goodIn_of _ (by decide +kernel)) ggX18_recorded_X18_wasAsked
theorem dX18_recorded_0 : decode cX18_recorded 0 = .ok (.aload_n 0, 1) := by decide +kernel
theorem dX18_recorded_1 : decode cX18_recorded 1 = .ok (.invokevirtual 424, 3) := by decide +kernel
theorem dX18_recorded_4 : decode cX18_recorded 4 = .ok (.ifCond .eq 10, 3) := by decide +kernel
theorem dX18_recorded_7 : decode cX18_recorded 7 = .ok (.aload_n 0, 1) := by decide +kernel
theorem dX18_recorded_8 : decode cX18_recorded 8 = .ok (.getfield 421, 3) := by decide +kernel
theorem dX18_recorded_11 : decode cX18_recorded 11 = .ok (.goto 4, 3) := by decide +kernel
theorem dX18_recorded_14 : decode cX18_recorded 14 = .ok (.iconst 0, 1) := by decide +kernel
theorem dX18_recorded_15 : decode cX18_recorded 15 = .ok (.ireturn, 1) := by decide +kernel
set_option maxRecDepth 20000 in
theorem ggX18_recordAt_X18_wasAsked : GoodIn wsX18_recordAt wsX18_wasAsked := goodIn_r _ [8, 9, 2, 13, 14, 15, 16, 17, 18, 19, 20, 21, 22, 23, 24, 25, 26, 27, 28, 29, 30, 31, 32, 33, 34, 35, 36, 37, 38, 39, 40, 41, 42, 43, 44, 45, 46, 47, 48, 49, 50, 51, 52, 53, 54, 55, 56, 57, 58, 59, 60, 61, 62, 63, 64, 65, 66, 67, 68, 69, 70, 71, 72, 73, 74, 75, 76, 77, 78, 79, 80, 81, 82] (by decide +kernel) (by decide +kernel)
set_option maxRecDepth 20000 in
theorem gX18_recordAt_X18_wasAsked : GoodIn wsX18_recordAt (wsV RX18 424 RX18 yX18_wasAsked wsX18_wasAsked) := goodIn_app (goodIn_of _ (by decide +kernel)) ggX18_recordAt_X18_wasAsked
set_option maxRecDepth 20000 in
theorem ggX18_recordAt_X18_in : GoodIn wsX18_recordAt wsX18_in := goodIn_r _ [12] (by decide +kernel) (by decide +kernel)
set_option maxRecDepth 20000 in
theorem gX18_recordAt_X18_in : GoodIn wsX18_recordAt (va_wsS RX18 145 yX18_in wsX18_in) := goodIn_app (goodIn_of _ (by decide +kernel)) ggX18_recordAt_X18_in
theorem dX18_recordAt_0 : decode cX18_recordAt 0 = .ok (.aload_n 0, 1) := by decide +kernel
theorem dX18_recordAt_1 : decode cX18_recordAt 1 = .ok (.invokevirtual 424, 3) := by decide +kernel
theorem dX18_recordAt_4 : decode cX18_recordAt 4 = .ok (.ifCond .ne 5, 3) := by decide +kernel
theorem dX18_recordAt_7 : decode cX18_recordAt 7 = .ok (.iconst 0, 1) := by decide +kernel
theorem dX18_recordAt_8 : decode cX18_recordAt 8 = .ok (.ireturn, 1) := by decide +kernel
theorem dX18_recordAt_9 : decode cX18_recordAt 9 = .ok (.aload_n 0, 1) := by decide +kernel
theorem dX18_recordAt_10 : decode cX18_recordAt 10 = .ok (.iload_n 1, 1) := by decide +kernel
theorem dX18_recordAt_11 : decode cX18_recordAt 11 = .ok (.iconst 0, 1) := by decide +kernel
theorem dX18_recordAt_12 : decode cX18_recordAt 12 = .ok (.aload_n 0, 1) := by decide +kernel
theorem dX18_recordAt_13 : decode cX18_recordAt 13 = .ok (.getfield 421, 3) := by decide +kernel
theorem dX18_recordAt_16 : decode cX18_recordAt 16 = .ok (.iconst 1, 1) := by decide +kernel
theorem dX18_recordAt_17 : decode cX18_recordAt 17 = .ok (.isub, 1) := by decide +kernel
theorem dX18_recordAt_18 : decode cX18_recordAt 18 = .ok (.invokestatic 145, 3) := by decide +kernel
theorem dX18_recordAt_21 : decode cX18_recordAt 21 = .ok (.ifCond .eq 7, 3) := by decide +kernel
theorem dX18_recordAt_24 : decode cX18_recordAt 24 = .ok (.iconst 0, 1) := by decide +kernel
theorem dX18_recordAt_25 : decode cX18_recordAt 25 = .ok (.goto 4, 3) := by decide +kernel
theorem dX18_recordAt_28 : decode cX18_recordAt 28 = .ok (.iconst 2, 1) := by decide +kernel
theorem dX18_recordAt_29 : decode cX18_recordAt 29 = .ok (.putfield 130, 3) := by decide +kernel
theorem dX18_recordAt_32 : decode cX18_recordAt 32 = .ok (.aload_n 0, 1) := by decide +kernel
theorem dX18_recordAt_33 : decode cX18_recordAt 33 = .ok (.getfield 130, 3) := by decide +kernel
theorem dX18_recordAt_36 : decode cX18_recordAt 36 = .ok (.ifCond .le 7, 3) := by decide +kernel
theorem dX18_recordAt_39 : decode cX18_recordAt 39 = .ok (.iconst 0, 1) := by decide +kernel
theorem dX18_recordAt_40 : decode cX18_recordAt 40 = .ok (.goto 9, 3) := by decide +kernel
theorem dX18_recordAt_43 : decode cX18_recordAt 43 = .ok (.aload_n 0, 1) := by decide +kernel
theorem dX18_recordAt_44 : decode cX18_recordAt 44 = .ok (.getfield 97, 3) := by decide +kernel
theorem dX18_recordAt_47 : decode cX18_recordAt 47 = .ok (.iload_n 1, 1) := by decide +kernel
theorem dX18_recordAt_48 : decode cX18_recordAt 48 = .ok (.caload, 1) := by decide +kernel
theorem dX18_recordAt_49 : decode cX18_recordAt 49 = .ok (.ireturn, 1) := by decide +kernel
set_option maxRecDepth 20000 in
theorem ggX18_whereAt_X18_wasAsked : GoodIn wsX18_whereAt wsX18_wasAsked := goodIn_r _ [7, 8, 9, 17, 18, 19, 20, 21, 22, 23, 24, 25, 26, 27, 28, 29, 30, 31, 32, 33, 34, 35, 36, 37, 38, 39, 40, 41, 42, 43, 44, 45, 46, 47, 48, 49, 50, 51, 52, 53, 54, 55, 56, 57, 58, 59, 60, 61, 62, 63, 64, 65, 66, 67, 68, 69, 70, 71, 72, 73, 74, 75, 76, 77, 78, 79, 80, 81, 82, 83, 84, 85, 86] (by decide +kernel) (by decide +kernel)
set_option maxRecDepth 20000 in
theorem gX18_whereAt_X18_wasAsked : GoodIn wsX18_whereAt (wsV RX18 424 RX18 yX18_wasAsked wsX18_wasAsked) := goodIn_app (goodIn_of _ (by decide +kernel)) ggX18_whereAt_X18_wasAsked
set_option maxRecDepth 20000 in
theorem ggX18_whereAt_X18_in : GoodIn wsX18_whereAt wsX18_in := goodIn_r _ [12] (by decide +kernel) (by decide +kernel)
set_option maxRecDepth 20000 in
theorem gX18_whereAt_X18_in : GoodIn wsX18_whereAt (va_wsS RX18 145 yX18_in wsX18_in) := goodIn_app (goodIn_of _ (by decide +kernel)) ggX18_whereAt_X18_in
set_option maxRecDepth 20000 in
theorem ggX18_whereAt_X18_fails : GoodIn wsX18_whereAt wsX18_fails := goodIn_r _ [16, 9, 17, 18, 19, 20, 21, 22, 23, 24, 25, 26, 27, 28, 29, 30, 31, 32, 33, 34, 35, 36, 37, 38, 39, 40, 41, 42, 43, 44, 45, 46, 47, 48, 49, 50, 51, 52, 53, 54, 55, 56, 57, 58, 59, 60, 61, 62, 63, 64, 65, 66, 67, 68, 69, 70, 71, 72, 73, 74, 75, 76, 77, 78, 79, 80, 81, 82, 83, 84, 85, 86] (by decide +kernel) (by decide +kernel)
set_option maxRecDepth 20000 in
theorem gX18_whereAt_X18_fails : GoodIn wsX18_whereAt (wsV RX18 141 RX18 yX18_fails wsX18_fails) := goodIn_app (goodIn_of _ (by decide +kernel)) ggX18_whereAt_X18_fails
theorem dX18_whereAt_0 : decode cX18_whereAt 0 = .ok (.aload_n 0, 1) := by decide +kernel
theorem dX18_whereAt_1 : decode cX18_whereAt 1 = .ok (.invokevirtual 424, 3) := by decide +kernel
theorem dX18_whereAt_4 : decode cX18_whereAt 4 = .ok (.ifCond .ne 5, 3) := by decide +kernel
theorem dX18_whereAt_7 : decode cX18_whereAt 7 = .ok (.iconst 0, 1) := by decide +kernel
theorem dX18_whereAt_8 : decode cX18_whereAt 8 = .ok (.ireturn, 1) := by decide +kernel
theorem dX18_whereAt_9 : decode cX18_whereAt 9 = .ok (.iload_n 1, 1) := by decide +kernel
theorem dX18_whereAt_10 : decode cX18_whereAt 10 = .ok (.iconst 0, 1) := by decide +kernel
theorem dX18_whereAt_11 : decode cX18_whereAt 11 = .ok (.aload_n 0, 1) := by decide +kernel
theorem dX18_whereAt_12 : decode cX18_whereAt 12 = .ok (.getfield 421, 3) := by decide +kernel
theorem dX18_whereAt_15 : decode cX18_whereAt 15 = .ok (.iconst 1, 1) := by decide +kernel
theorem dX18_whereAt_16 : decode cX18_whereAt 16 = .ok (.isub, 1) := by decide +kernel
theorem dX18_whereAt_17 : decode cX18_whereAt 17 = .ok (.invokestatic 145, 3) := by decide +kernel
theorem dX18_whereAt_20 : decode cX18_whereAt 20 = .ok (.ifCond .eq 12, 3) := by decide +kernel
theorem dX18_whereAt_23 : decode cX18_whereAt 23 = .ok (.aload_n 0, 1) := by decide +kernel
theorem dX18_whereAt_24 : decode cX18_whereAt 24 = .ok (.getfield 100, 3) := by decide +kernel
theorem dX18_whereAt_27 : decode cX18_whereAt 27 = .ok (.iload_n 1, 1) := by decide +kernel
theorem dX18_whereAt_28 : decode cX18_whereAt 28 = .ok (.iaload, 1) := by decide +kernel
theorem dX18_whereAt_29 : decode cX18_whereAt 29 = .ok (.goto 8, 3) := by decide +kernel
theorem dX18_whereAt_32 : decode cX18_whereAt 32 = .ok (.aload_n 0, 1) := by decide +kernel
theorem dX18_whereAt_33 : decode cX18_whereAt 33 = .ok (.iconst 2, 1) := by decide +kernel
theorem dX18_whereAt_34 : decode cX18_whereAt 34 = .ok (.invokevirtual 141, 3) := by decide +kernel
theorem dX18_whereAt_37 : decode cX18_whereAt 37 = .ok (.ireturn, 1) := by decide +kernel
theorem dX18_terms_0 : decode cX18_terms 0 = .ok (.aload_n 0, 1) := by decide +kernel
theorem dX18_terms_1 : decode cX18_terms 1 = .ok (.iconst 0, 1) := by decide +kernel
theorem dX18_terms_2 : decode cX18_terms 2 = .ok (.putfield 130, 3) := by decide +kernel
theorem dX18_terms_5 : decode cX18_terms 5 = .ok (.aload_n 0, 1) := by decide +kernel
theorem dX18_terms_6 : decode cX18_terms 6 = .ok (.getfield 152, 3) := by decide +kernel
theorem dX18_terms_9 : decode cX18_terms 9 = .ok (.ireturn, 1) := by decide +kernel
theorem dX18_onceShare_0 : decode cX18_onceShare 0 = .ok (.aload_n 0, 1) := by decide +kernel
theorem dX18_onceShare_1 : decode cX18_onceShare 1 = .ok (.aload_n 0, 1) := by decide +kernel
theorem dX18_onceShare_2 : decode cX18_onceShare 2 = .ok (.getfield 137, 3) := by decide +kernel
theorem dX18_onceShare_5 : decode cX18_onceShare 5 = .ok (.ifCond .eq 7, 3) := by decide +kernel
theorem dX18_onceShare_8 : decode cX18_onceShare 8 = .ok (.iconst 0, 1) := by decide +kernel
theorem dX18_onceShare_9 : decode cX18_onceShare 9 = .ok (.goto 4, 3) := by decide +kernel
theorem dX18_onceShare_12 : decode cX18_onceShare 12 = .ok (.iconst 1, 1) := by decide +kernel
theorem dX18_onceShare_13 : decode cX18_onceShare 13 = .ok (.putfield 130, 3) := by decide +kernel
theorem dX18_onceShare_16 : decode cX18_onceShare 16 = .ok (.iconst 0, 1) := by decide +kernel
theorem dX18_onceShare_17 : decode cX18_onceShare 17 = .ok (.istore_n 1, 1) := by decide +kernel
theorem dX18_onceShare_18 : decode cX18_onceShare 18 = .ok (.iconst 0, 1) := by decide +kernel
theorem dX18_onceShare_19 : decode cX18_onceShare 19 = .ok (.istore_n 2, 1) := by decide +kernel
theorem dX18_onceShare_20 : decode cX18_onceShare 20 = .ok (.iconst 0, 1) := by decide +kernel
theorem dX18_onceShare_21 : decode cX18_onceShare 21 = .ok (.istore_n 3, 1) := by decide +kernel
theorem dX18_onceShare_22 : decode cX18_onceShare 22 = .ok (.iload_n 3, 1) := by decide +kernel
theorem dX18_onceShare_23 : decode cX18_onceShare 23 = .ok (.bipush 10, 2) := by decide +kernel
theorem dX18_onceShare_25 : decode cX18_onceShare 25 = .ok (.if_icmp .ge 91, 3) := by decide +kernel
theorem dX18_onceShare_28 : decode cX18_onceShare 28 = .ok (.aload_n 0, 1) := by decide +kernel
theorem dX18_onceShare_29 : decode cX18_onceShare 29 = .ok (.getfield 130, 3) := by decide +kernel
theorem dX18_onceShare_32 : decode cX18_onceShare 32 = .ok (.ifCond .ne 84, 3) := by decide +kernel
theorem dX18_onceShare_35 : decode cX18_onceShare 35 = .ok (.iload_n 3, 1) := by decide +kernel
theorem dX18_onceShare_36 : decode cX18_onceShare 36 = .ok (.iconst 2, 1) := by decide +kernel
theorem dX18_onceShare_37 : decode cX18_onceShare 37 = .ok (.idiv, 1) := by decide +kernel
theorem dX18_onceShare_38 : decode cX18_onceShare 38 = .ok (.aload_n 0, 1) := by decide +kernel
theorem dX18_onceShare_39 : decode cX18_onceShare 39 = .ok (.getfield 169, 3) := by decide +kernel
theorem dX18_onceShare_42 : decode cX18_onceShare 42 = .ok (.if_icmp .ge 30, 3) := by decide +kernel
theorem dX18_onceShare_45 : decode cX18_onceShare 45 = .ok (.iload_n 3, 1) := by decide +kernel
theorem dX18_onceShare_46 : decode cX18_onceShare 46 = .ok (.iconst 2, 1) := by decide +kernel
theorem dX18_onceShare_47 : decode cX18_onceShare 47 = .ok (.irem, 1) := by decide +kernel
theorem dX18_onceShare_48 : decode cX18_onceShare 48 = .ok (.aload_n 0, 1) := by decide +kernel
theorem dX18_onceShare_49 : decode cX18_onceShare 49 = .ok (.getfield 32, 3) := by decide +kernel
theorem dX18_onceShare_52 : decode cX18_onceShare 52 = .ok (.iload_n 3, 1) := by decide +kernel
theorem dX18_onceShare_53 : decode cX18_onceShare 53 = .ok (.iconst 2, 1) := by decide +kernel
theorem dX18_onceShare_54 : decode cX18_onceShare 54 = .ok (.idiv, 1) := by decide +kernel
theorem dX18_onceShare_55 : decode cX18_onceShare 55 = .ok (.iaload, 1) := by decide +kernel
theorem dX18_onceShare_56 : decode cX18_onceShare 56 = .ok (.if_icmp .ge 16, 3) := by decide +kernel
theorem dX18_onceShare_59 : decode cX18_onceShare 59 = .ok (.aload_n 0, 1) := by decide +kernel
theorem dX18_onceShare_60 : decode cX18_onceShare 60 = .ok (.getfield 76, 3) := by decide +kernel
theorem dX18_onceShare_63 : decode cX18_onceShare 63 = .ok (.iload_n 3, 1) := by decide +kernel
theorem dX18_onceShare_64 : decode cX18_onceShare 64 = .ok (.baload, 1) := by decide +kernel
theorem dX18_onceShare_65 : decode cX18_onceShare 65 = .ok (.ifCond .eq 7, 3) := by decide +kernel
theorem dX18_onceShare_68 : decode cX18_onceShare 68 = .ok (.iconst 1, 1) := by decide +kernel
theorem dX18_onceShare_69 : decode cX18_onceShare 69 = .ok (.goto 4, 3) := by decide +kernel
theorem dX18_onceShare_72 : decode cX18_onceShare 72 = .ok (.iconst 0, 1) := by decide +kernel
theorem dX18_onceShare_73 : decode cX18_onceShare 73 = .ok (.istore 4, 2) := by decide +kernel
theorem dX18_onceShare_75 : decode cX18_onceShare 75 = .ok (.iload_n 1, 1) := by decide +kernel
theorem dX18_onceShare_76 : decode cX18_onceShare 76 = .ok (.iload 4, 2) := by decide +kernel
theorem dX18_onceShare_78 : decode cX18_onceShare 78 = .ok (.ifCond .eq 7, 3) := by decide +kernel
theorem dX18_onceShare_81 : decode cX18_onceShare 81 = .ok (.iconst 1, 1) := by decide +kernel
theorem dX18_onceShare_82 : decode cX18_onceShare 82 = .ok (.goto 4, 3) := by decide +kernel
theorem dX18_onceShare_85 : decode cX18_onceShare 85 = .ok (.iconst 0, 1) := by decide +kernel
theorem dX18_onceShare_86 : decode cX18_onceShare 86 = .ok (.iadd, 1) := by decide +kernel
theorem dX18_onceShare_87 : decode cX18_onceShare 87 = .ok (.istore_n 1, 1) := by decide +kernel
theorem dX18_onceShare_88 : decode cX18_onceShare 88 = .ok (.iload_n 2, 1) := by decide +kernel
theorem dX18_onceShare_89 : decode cX18_onceShare 89 = .ok (.iload 4, 2) := by decide +kernel
theorem dX18_onceShare_91 : decode cX18_onceShare 91 = .ok (.ifCond .eq 16, 3) := by decide +kernel
theorem dX18_onceShare_94 : decode cX18_onceShare 94 = .ok (.aload_n 0, 1) := by decide +kernel
theorem dX18_onceShare_95 : decode cX18_onceShare 95 = .ok (.getfield 82, 3) := by decide +kernel
theorem dX18_onceShare_98 : decode cX18_onceShare 98 = .ok (.iload_n 3, 1) := by decide +kernel
theorem dX18_onceShare_99 : decode cX18_onceShare 99 = .ok (.baload, 1) := by decide +kernel
theorem dX18_onceShare_100 : decode cX18_onceShare 100 = .ok (.ifCond .ne 7, 3) := by decide +kernel
theorem dX18_onceShare_103 : decode cX18_onceShare 103 = .ok (.iconst 1, 1) := by decide +kernel
theorem dX18_onceShare_104 : decode cX18_onceShare 104 = .ok (.goto 4, 3) := by decide +kernel
theorem dX18_onceShare_107 : decode cX18_onceShare 107 = .ok (.iconst 0, 1) := by decide +kernel
theorem dX18_onceShare_108 : decode cX18_onceShare 108 = .ok (.iadd, 1) := by decide +kernel
theorem dX18_onceShare_109 : decode cX18_onceShare 109 = .ok (.istore_n 2, 1) := by decide +kernel
theorem dX18_onceShare_110 : decode cX18_onceShare 110 = .ok (.iinc 3 1, 3) := by decide +kernel
theorem dX18_onceShare_113 : decode cX18_onceShare 113 = .ok (.goto (-91), 3) := by decide +kernel
theorem dX18_onceShare_116 : decode cX18_onceShare 116 = .ok (.aload_n 0, 1) := by decide +kernel
theorem dX18_onceShare_117 : decode cX18_onceShare 117 = .ok (.aload_n 0, 1) := by decide +kernel
theorem dX18_onceShare_118 : decode cX18_onceShare 118 = .ok (.getfield 130, 3) := by decide +kernel
theorem dX18_onceShare_121 : decode cX18_onceShare 121 = .ok (.ifCond .ne 11, 3) := by decide +kernel
theorem dX18_onceShare_124 : decode cX18_onceShare 124 = .ok (.iload_n 1, 1) := by decide +kernel
theorem dX18_onceShare_125 : decode cX18_onceShare 125 = .ok (.ifCond .ne 7, 3) := by decide +kernel
theorem dX18_onceShare_128 : decode cX18_onceShare 128 = .ok (.iconst 2, 1) := by decide +kernel
theorem dX18_onceShare_129 : decode cX18_onceShare 129 = .ok (.goto 7, 3) := by decide +kernel
theorem dX18_onceShare_132 : decode cX18_onceShare 132 = .ok (.aload_n 0, 1) := by decide +kernel
theorem dX18_onceShare_133 : decode cX18_onceShare 133 = .ok (.getfield 130, 3) := by decide +kernel
theorem dX18_onceShare_136 : decode cX18_onceShare 136 = .ok (.putfield 130, 3) := by decide +kernel
theorem dX18_onceShare_139 : decode cX18_onceShare 139 = .ok (.aload_n 0, 1) := by decide +kernel
theorem dX18_onceShare_140 : decode cX18_onceShare 140 = .ok (.getfield 130, 3) := by decide +kernel
theorem dX18_onceShare_143 : decode cX18_onceShare 143 = .ok (.ifCond .le 7, 3) := by decide +kernel
theorem dX18_onceShare_146 : decode cX18_onceShare 146 = .ok (.fconst 0, 1) := by decide +kernel
theorem dX18_onceShare_147 : decode cX18_onceShare 147 = .ok (.goto 8, 3) := by decide +kernel
theorem dX18_onceShare_150 : decode cX18_onceShare 150 = .ok (.iload_n 2, 1) := by decide +kernel
theorem dX18_onceShare_151 : decode cX18_onceShare 151 = .ok (.i2f, 1) := by decide +kernel
theorem dX18_onceShare_152 : decode cX18_onceShare 152 = .ok (.iload_n 1, 1) := by decide +kernel
theorem dX18_onceShare_153 : decode cX18_onceShare 153 = .ok (.i2f, 1) := by decide +kernel
theorem dX18_onceShare_154 : decode cX18_onceShare 154 = .ok (.fdiv, 1) := by decide +kernel
theorem dX18_onceShare_155 : decode cX18_onceShare 155 = .ok (.freturn, 1) := by decide +kernel
theorem dX18_meanSteps_0 : decode cX18_meanSteps 0 = .ok (.aload_n 0, 1) := by decide +kernel
theorem dX18_meanSteps_1 : decode cX18_meanSteps 1 = .ok (.aload_n 0, 1) := by decide +kernel
theorem dX18_meanSteps_2 : decode cX18_meanSteps 2 = .ok (.getfield 227, 3) := by decide +kernel
theorem dX18_meanSteps_5 : decode cX18_meanSteps 5 = .ok (.ifCond .ne 7, 3) := by decide +kernel
theorem dX18_meanSteps_8 : decode cX18_meanSteps 8 = .ok (.iconst 1, 1) := by decide +kernel
theorem dX18_meanSteps_9 : decode cX18_meanSteps 9 = .ok (.goto 4, 3) := by decide +kernel
theorem dX18_meanSteps_12 : decode cX18_meanSteps 12 = .ok (.iconst 0, 1) := by decide +kernel
theorem dX18_meanSteps_13 : decode cX18_meanSteps 13 = .ok (.putfield 130, 3) := by decide +kernel
theorem dX18_meanSteps_16 : decode cX18_meanSteps 16 = .ok (.aload_n 0, 1) := by decide +kernel
theorem dX18_meanSteps_17 : decode cX18_meanSteps 17 = .ok (.getfield 130, 3) := by decide +kernel
theorem dX18_meanSteps_20 : decode cX18_meanSteps 20 = .ok (.ifCond .le 7, 3) := by decide +kernel
theorem dX18_meanSteps_23 : decode cX18_meanSteps 23 = .ok (.dconst 0, 1) := by decide +kernel
theorem dX18_meanSteps_24 : decode cX18_meanSteps 24 = .ok (.goto 14, 3) := by decide +kernel
theorem dX18_meanSteps_27 : decode cX18_meanSteps 27 = .ok (.aload_n 0, 1) := by decide +kernel
theorem dX18_meanSteps_28 : decode cX18_meanSteps 28 = .ok (.getfield 230, 3) := by decide +kernel
theorem dX18_meanSteps_31 : decode cX18_meanSteps 31 = .ok (.l2d, 1) := by decide +kernel
theorem dX18_meanSteps_32 : decode cX18_meanSteps 32 = .ok (.aload_n 0, 1) := by decide +kernel
theorem dX18_meanSteps_33 : decode cX18_meanSteps 33 = .ok (.getfield 227, 3) := by decide +kernel
theorem dX18_meanSteps_36 : decode cX18_meanSteps 36 = .ok (.i2d, 1) := by decide +kernel
theorem dX18_meanSteps_37 : decode cX18_meanSteps 37 = .ok (.ddiv, 1) := by decide +kernel
theorem dX18_meanSteps_38 : decode cX18_meanSteps 38 = .ok (.dreturn, 1) := by decide +kernel
set_option maxRecDepth 20000 in
theorem ggX18_answersByBreadth_X18_wasAsked : GoodIn wsX18_answersByBreadth wsX18_wasAsked := goodIn_r _ [22, 23, 24, 123, 124, 125, 126, 127, 128, 129, 130, 131, 132, 133, 134, 135, 136, 137, 138, 139, 140, 141, 142, 143, 144, 145, 146, 147, 148, 149, 150, 151, 152, 153, 154, 155, 156, 157, 158, 159, 160, 161, 162, 163, 164, 165, 166, 167, 168, 169, 170, 171, 172, 173, 174, 175, 176, 177, 178, 179, 180, 181, 182, 183, 184, 185, 186, 187, 188, 189, 190, 191, 192] (by decide +kernel) (by decide +kernel)
set_option maxRecDepth 20000 in
theorem gX18_answersByBreadth_X18_wasAsked : GoodIn wsX18_answersByBreadth (wsV RX18 424 RX18 yX18_wasAsked wsX18_wasAsked) := goodIn_app (goodIn_of _ (by decide +kernel)) ggX18_answersByBreadth_X18_wasAsked
set_option maxRecDepth 20000 in
theorem ggX18_answersByBreadth_X18_parts : GoodIn wsX18_answersByBreadth wsX18_parts := goodIn_ca (goodIn_r _ [28, 29, 123, 124, 125, 126, 127, 128, 129, 130, 131, 132, 133, 134, 135, 136, 137, 138, 139, 140, 141, 142, 143, 144, 145, 146, 147, 148, 149, 150, 151, 152, 153, 154, 155, 156, 157, 158, 159, 160, 161, 162, 163, 164, 165, 166, 167, 168, 169, 170, 171, 172, 173, 174, 175, 176, 177, 178, 179, 180, 181, 182, 183, 184, 185, 186, 187, 188, 189, 190, 191, 192] (by decide +kernel) (by decide +kernel)) (goodIn_sub (fun _ h => List.mem_cons_of_mem _ (List.mem_append_right _ h)) (by decide +kernel))
set_option maxRecDepth 20000 in
theorem gX18_answersByBreadth_X18_parts : GoodIn wsX18_answersByBreadth (wsV RX18 155 RX18 yX18_parts wsX18_parts) := goodIn_app (goodIn_of _ (by decide +kernel)) ggX18_answersByBreadth_X18_parts
set_option maxRecDepth 20000 in
theorem ggX18_answersByBreadth_X18_isInput : GoodIn wsX18_answersByBreadth wsX18_isInput := goodIn_ca (goodIn_r _ [42, 7, 43, 123, 124, 125, 126, 127, 128, 129, 130, 131, 132, 133, 134, 135, 136, 137, 138, 139, 140, 141, 142, 143, 144, 145, 146, 147, 148, 149, 150, 151, 152, 153, 154, 155, 156, 157, 158, 159, 160, 161, 162, 163, 164, 165, 166, 167, 168, 169, 170, 171, 172, 173, 174, 175, 176, 177, 178, 179, 180, 181, 182, 183, 184, 185, 186, 187, 188, 189, 190, 191, 192] (by decide +kernel) (by decide +kernel)) (goodIn_sub (fun _ h => List.mem_cons_of_mem _ (List.mem_append_right _ h)) (by decide +kernel))
set_option maxRecDepth 20000 in
theorem gX18_answersByBreadth_X18_isInput : GoodIn wsX18_answersByBreadth (wsV RX18 397 RX18 yX18_isInput wsX18_isInput) := goodIn_app (goodIn_of _ (by decide +kernel)) ggX18_answersByBreadth_X18_isInput
set_option maxRecDepth 20000 in
theorem ggX18_answersByBreadth_X18_fails : GoodIn wsX18_answersByBreadth wsX18_fails := goodIn_r _ [122, 24, 123, 124, 125, 126, 127, 128, 129, 130, 131, 132, 133, 134, 135, 136, 137, 138, 139, 140, 141, 142, 143, 144, 145, 146, 147, 148, 149, 150, 151, 152, 153, 154, 155, 156, 157, 158, 159, 160, 161, 162, 163, 164, 165, 166, 167, 168, 169, 170, 171, 172, 173, 174, 175, 176, 177, 178, 179, 180, 181, 182, 183, 184, 185, 186, 187, 188, 189, 190, 191, 192] (by decide +kernel) (by decide +kernel)
set_option maxRecDepth 20000 in
theorem gX18_answersByBreadth_X18_fails : GoodIn wsX18_answersByBreadth (wsV RX18 141 RX18 yX18_fails wsX18_fails) := goodIn_app (goodIn_of _ (by decide +kernel)) ggX18_answersByBreadth_X18_fails
theorem dX18_answersByBreadth_0 : decode cX18_answersByBreadth 0 = .ok (.aload_n 0, 1) := by decide +kernel
theorem dX18_answersByBreadth_1 : decode cX18_answersByBreadth 1 = .ok (.invokevirtual 424, 3) := by decide +kernel
theorem dX18_answersByBreadth_4 : decode cX18_answersByBreadth 4 = .ok (.ifCond .ne 5, 3) := by decide +kernel
theorem dX18_answersByBreadth_7 : decode cX18_answersByBreadth 7 = .ok (.iconst 0, 1) := by decide +kernel
theorem dX18_answersByBreadth_8 : decode cX18_answersByBreadth 8 = .ok (.ireturn, 1) := by decide +kernel
theorem dX18_answersByBreadth_9 : decode cX18_answersByBreadth 9 = .ok (.sipush 200, 3) := by decide +kernel
theorem dX18_answersByBreadth_12 : decode cX18_answersByBreadth 12 = .ok (.anewarray 121, 3) := by decide +kernel
theorem dX18_answersByBreadth_15 : decode cX18_answersByBreadth 15 = .ok (.astore_n 1, 1) := by decide +kernel
theorem dX18_answersByBreadth_16 : decode cX18_answersByBreadth 16 = .ok (.iconst 0, 1) := by decide +kernel
theorem dX18_answersByBreadth_17 : decode cX18_answersByBreadth 17 = .ok (.istore_n 2, 1) := by decide +kernel
theorem dX18_answersByBreadth_18 : decode cX18_answersByBreadth 18 = .ok (.iload_n 2, 1) := by decide +kernel
theorem dX18_answersByBreadth_19 : decode cX18_answersByBreadth 19 = .ok (.aload_n 0, 1) := by decide +kernel
theorem dX18_answersByBreadth_20 : decode cX18_answersByBreadth 20 = .ok (.getfield 152, 3) := by decide +kernel
theorem dX18_answersByBreadth_23 : decode cX18_answersByBreadth 23 = .ok (.if_icmp .ge 78, 3) := by decide +kernel
theorem dX18_answersByBreadth_26 : decode cX18_answersByBreadth 26 = .ok (.aload_n 0, 1) := by decide +kernel
theorem dX18_answersByBreadth_27 : decode cX18_answersByBreadth 27 = .ok (.getfield 16, 3) := by decide +kernel
theorem dX18_answersByBreadth_30 : decode cX18_answersByBreadth 30 = .ok (.iload_n 2, 1) := by decide +kernel
theorem dX18_answersByBreadth_31 : decode cX18_answersByBreadth 31 = .ok (.iaload, 1) := by decide +kernel
theorem dX18_answersByBreadth_32 : decode cX18_answersByBreadth 32 = .ok (.istore_n 3, 1) := by decide +kernel
theorem dX18_answersByBreadth_33 : decode cX18_answersByBreadth 33 = .ok (.aload_n 0, 1) := by decide +kernel
theorem dX18_answersByBreadth_34 : decode cX18_answersByBreadth 34 = .ok (.iload_n 3, 1) := by decide +kernel
theorem dX18_answersByBreadth_35 : decode cX18_answersByBreadth 35 = .ok (.invokevirtual 155, 3) := by decide +kernel
theorem dX18_answersByBreadth_38 : decode cX18_answersByBreadth 38 = .ok (.ifCond .le 16, 3) := by decide +kernel
theorem dX18_answersByBreadth_41 : decode cX18_answersByBreadth 41 = .ok (.aload_n 1, 1) := by decide +kernel
theorem dX18_answersByBreadth_42 : decode cX18_answersByBreadth 42 = .ok (.aload_n 0, 1) := by decide +kernel
theorem dX18_answersByBreadth_43 : decode cX18_answersByBreadth 43 = .ok (.getfield 19, 3) := by decide +kernel
theorem dX18_answersByBreadth_46 : decode cX18_answersByBreadth 46 = .ok (.iconst 2, 1) := by decide +kernel
theorem dX18_answersByBreadth_47 : decode cX18_answersByBreadth 47 = .ok (.iload_n 2, 1) := by decide +kernel
theorem dX18_answersByBreadth_48 : decode cX18_answersByBreadth 48 = .ok (.imul, 1) := by decide +kernel
theorem dX18_answersByBreadth_49 : decode cX18_answersByBreadth 49 = .ok (.iaload, 1) := by decide +kernel
theorem dX18_answersByBreadth_50 : decode cX18_answersByBreadth 50 = .ok (.aaload, 1) := by decide +kernel
theorem dX18_answersByBreadth_51 : decode cX18_answersByBreadth 51 = .ok (.goto 4, 3) := by decide +kernel
theorem dX18_answersByBreadth_54 : decode cX18_answersByBreadth 54 = .ok (.aconst_null, 1) := by decide +kernel
theorem dX18_answersByBreadth_55 : decode cX18_answersByBreadth 55 = .ok (.astore 4, 2) := by decide +kernel
theorem dX18_answersByBreadth_57 : decode cX18_answersByBreadth 57 = .ok (.aload_n 1, 1) := by decide +kernel
theorem dX18_answersByBreadth_58 : decode cX18_answersByBreadth 58 = .ok (.iload_n 2, 1) := by decide +kernel
theorem dX18_answersByBreadth_59 : decode cX18_answersByBreadth 59 = .ok (.new 121, 3) := by decide +kernel
theorem dX18_answersByBreadth_62 : decode cX18_answersByBreadth 62 = .ok (.dup, 1) := by decide +kernel
theorem dX18_answersByBreadth_63 : decode cX18_answersByBreadth 63 = .ok (.iload_n 3, 1) := by decide +kernel
theorem dX18_answersByBreadth_64 : decode cX18_answersByBreadth 64 = .ok (.aload 4, 2) := by decide +kernel
theorem dX18_answersByBreadth_66 : decode cX18_answersByBreadth 66 = .ok (.aload_n 0, 1) := by decide +kernel
theorem dX18_answersByBreadth_67 : decode cX18_answersByBreadth 67 = .ok (.iload_n 3, 1) := by decide +kernel
theorem dX18_answersByBreadth_68 : decode cX18_answersByBreadth 68 = .ok (.invokevirtual 155, 3) := by decide +kernel
theorem dX18_answersByBreadth_71 : decode cX18_answersByBreadth 71 = .ok (.iconst 1, 1) := by decide +kernel
theorem dX18_answersByBreadth_72 : decode cX18_answersByBreadth 72 = .ok (.if_icmp .le 18, 3) := by decide +kernel
theorem dX18_answersByBreadth_75 : decode cX18_answersByBreadth 75 = .ok (.aload_n 1, 1) := by decide +kernel
theorem dX18_answersByBreadth_76 : decode cX18_answersByBreadth 76 = .ok (.aload_n 0, 1) := by decide +kernel
theorem dX18_answersByBreadth_77 : decode cX18_answersByBreadth 77 = .ok (.getfield 19, 3) := by decide +kernel
theorem dX18_answersByBreadth_80 : decode cX18_answersByBreadth 80 = .ok (.iconst 2, 1) := by decide +kernel
theorem dX18_answersByBreadth_81 : decode cX18_answersByBreadth 81 = .ok (.iload_n 2, 1) := by decide +kernel
theorem dX18_answersByBreadth_82 : decode cX18_answersByBreadth 82 = .ok (.imul, 1) := by decide +kernel
theorem dX18_answersByBreadth_83 : decode cX18_answersByBreadth 83 = .ok (.iconst 1, 1) := by decide +kernel
theorem dX18_answersByBreadth_84 : decode cX18_answersByBreadth 84 = .ok (.iadd, 1) := by decide +kernel
theorem dX18_answersByBreadth_85 : decode cX18_answersByBreadth 85 = .ok (.iaload, 1) := by decide +kernel
theorem dX18_answersByBreadth_86 : decode cX18_answersByBreadth 86 = .ok (.aaload, 1) := by decide +kernel
theorem dX18_answersByBreadth_87 : decode cX18_answersByBreadth 87 = .ok (.goto 4, 3) := by decide +kernel
theorem dX18_answersByBreadth_90 : decode cX18_answersByBreadth 90 = .ok (.aconst_null, 1) := by decide +kernel
theorem dX18_answersByBreadth_91 : decode cX18_answersByBreadth 91 = .ok (.invokespecial 508, 3) := by decide +kernel
theorem dX18_answersByBreadth_94 : decode cX18_answersByBreadth 94 = .ok (.aastore, 1) := by decide +kernel
theorem dX18_answersByBreadth_95 : decode cX18_answersByBreadth 95 = .ok (.iinc 2 1, 3) := by decide +kernel
theorem dX18_answersByBreadth_98 : decode cX18_answersByBreadth 98 = .ok (.goto (-80), 3) := by decide +kernel
theorem dX18_answersByBreadth_101 : decode cX18_answersByBreadth 101 = .ok (.iconst 3, 1) := by decide +kernel
theorem dX18_answersByBreadth_102 : decode cX18_answersByBreadth 102 = .ok (.anewarray 121, 3) := by decide +kernel
theorem dX18_answersByBreadth_105 : decode cX18_answersByBreadth 105 = .ok (.astore_n 2, 1) := by decide +kernel
theorem dX18_answersByBreadth_106 : decode cX18_answersByBreadth 106 = .ok (.iconst 0, 1) := by decide +kernel
theorem dX18_answersByBreadth_107 : decode cX18_answersByBreadth 107 = .ok (.istore_n 3, 1) := by decide +kernel
theorem dX18_answersByBreadth_108 : decode cX18_answersByBreadth 108 = .ok (.iload_n 3, 1) := by decide +kernel
theorem dX18_answersByBreadth_109 : decode cX18_answersByBreadth 109 = .ok (.aload_n 0, 1) := by decide +kernel
theorem dX18_answersByBreadth_110 : decode cX18_answersByBreadth 110 = .ok (.getfield 26, 3) := by decide +kernel
theorem dX18_answersByBreadth_113 : decode cX18_answersByBreadth 113 = .ok (.aload_n 0, 1) := by decide +kernel
theorem dX18_answersByBreadth_114 : decode cX18_answersByBreadth 114 = .ok (.getfield 400, 3) := by decide +kernel
theorem dX18_answersByBreadth_117 : decode cX18_answersByBreadth 117 = .ok (.iaload, 1) := by decide +kernel
theorem dX18_answersByBreadth_118 : decode cX18_answersByBreadth 118 = .ok (.if_icmp .ge 49, 3) := by decide +kernel
theorem dX18_answersByBreadth_121 : decode cX18_answersByBreadth 121 = .ok (.aload_n 2, 1) := by decide +kernel
theorem dX18_answersByBreadth_122 : decode cX18_answersByBreadth 122 = .ok (.iload_n 3, 1) := by decide +kernel
theorem dX18_answersByBreadth_123 : decode cX18_answersByBreadth 123 = .ok (.aload_n 0, 1) := by decide +kernel
theorem dX18_answersByBreadth_124 : decode cX18_answersByBreadth 124 = .ok (.aload_n 0, 1) := by decide +kernel
theorem dX18_answersByBreadth_125 : decode cX18_answersByBreadth 125 = .ok (.getfield 400, 3) := by decide +kernel
theorem dX18_answersByBreadth_128 : decode cX18_answersByBreadth 128 = .ok (.aload_n 0, 1) := by decide +kernel
theorem dX18_answersByBreadth_129 : decode cX18_answersByBreadth 129 = .ok (.getfield 403, 3) := by decide +kernel
theorem dX18_answersByBreadth_132 : decode cX18_answersByBreadth 132 = .ok (.iload_n 3, 1) := by decide +kernel
theorem dX18_answersByBreadth_133 : decode cX18_answersByBreadth 133 = .ok (.invokevirtual 397, 3) := by decide +kernel
theorem dX18_answersByBreadth_136 : decode cX18_answersByBreadth 136 = .ok (.ifCond .eq 14, 3) := by decide +kernel
theorem dX18_answersByBreadth_139 : decode cX18_answersByBreadth 139 = .ok (.aload_n 1, 1) := by decide +kernel
theorem dX18_answersByBreadth_140 : decode cX18_answersByBreadth 140 = .ok (.aload_n 0, 1) := by decide +kernel
theorem dX18_answersByBreadth_141 : decode cX18_answersByBreadth 141 = .ok (.getfield 91, 3) := by decide +kernel
theorem dX18_answersByBreadth_144 : decode cX18_answersByBreadth 144 = .ok (.iload_n 3, 1) := by decide +kernel
theorem dX18_answersByBreadth_145 : decode cX18_answersByBreadth 145 = .ok (.iaload, 1) := by decide +kernel
theorem dX18_answersByBreadth_146 : decode cX18_answersByBreadth 146 = .ok (.aaload, 1) := by decide +kernel
theorem dX18_answersByBreadth_147 : decode cX18_answersByBreadth 147 = .ok (.goto 13, 3) := by decide +kernel
theorem dX18_answersByBreadth_150 : decode cX18_answersByBreadth 150 = .ok (.new 121, 3) := by decide +kernel
theorem dX18_answersByBreadth_153 : decode cX18_answersByBreadth 153 = .ok (.dup, 1) := by decide +kernel
theorem dX18_answersByBreadth_154 : decode cX18_answersByBreadth 154 = .ok (.iconst (-1), 1) := by decide +kernel
theorem dX18_answersByBreadth_155 : decode cX18_answersByBreadth 155 = .ok (.aconst_null, 1) := by decide +kernel
theorem dX18_answersByBreadth_156 : decode cX18_answersByBreadth 156 = .ok (.aconst_null, 1) := by decide +kernel
theorem dX18_answersByBreadth_157 : decode cX18_answersByBreadth 157 = .ok (.invokespecial 508, 3) := by decide +kernel
theorem dX18_answersByBreadth_160 : decode cX18_answersByBreadth 160 = .ok (.aastore, 1) := by decide +kernel
theorem dX18_answersByBreadth_161 : decode cX18_answersByBreadth 161 = .ok (.iinc 3 1, 3) := by decide +kernel
theorem dX18_answersByBreadth_164 : decode cX18_answersByBreadth 164 = .ok (.goto (-56), 3) := by decide +kernel
theorem dX18_answersByBreadth_167 : decode cX18_answersByBreadth 167 = .ok (.aload_n 0, 1) := by decide +kernel
theorem dX18_answersByBreadth_168 : decode cX18_answersByBreadth 168 = .ok (.iconst 0, 1) := by decide +kernel
theorem dX18_answersByBreadth_169 : decode cX18_answersByBreadth 169 = .ok (.putfield 511, 3) := by decide +kernel
theorem dX18_answersByBreadth_172 : decode cX18_answersByBreadth 172 = .ok (.aload_n 0, 1) := by decide +kernel
theorem dX18_answersByBreadth_173 : decode cX18_answersByBreadth 173 = .ok (.new 515, 3) := by decide +kernel
theorem dX18_answersByBreadth_176 : decode cX18_answersByBreadth 176 = .ok (.dup, 1) := by decide +kernel
theorem dX18_answersByBreadth_177 : decode cX18_answersByBreadth 177 = .ok (.new 478, 3) := by decide +kernel
theorem dX18_answersByBreadth_180 : decode cX18_answersByBreadth 180 = .ok (.dup, 1) := by decide +kernel
theorem dX18_answersByBreadth_181 : decode cX18_answersByBreadth 181 = .ok (.bipush 99, 2) := by decide +kernel
theorem dX18_answersByBreadth_183 : decode cX18_answersByBreadth 183 = .ok (.aload_n 0, 1) := by decide +kernel
theorem dX18_answersByBreadth_184 : decode cX18_answersByBreadth 184 = .ok (.getfield 400, 3) := by decide +kernel
theorem dX18_answersByBreadth_187 : decode cX18_answersByBreadth 187 = .ok (.aload_n 2, 1) := by decide +kernel
theorem dX18_answersByBreadth_188 : decode cX18_answersByBreadth 188 = .ok (.iconst 0, 1) := by decide +kernel
theorem dX18_answersByBreadth_189 : decode cX18_answersByBreadth 189 = .ok (.aaload, 1) := by decide +kernel
theorem dX18_answersByBreadth_190 : decode cX18_answersByBreadth 190 = .ok (.aload_n 2, 1) := by decide +kernel
theorem dX18_answersByBreadth_191 : decode cX18_answersByBreadth 191 = .ok (.iconst 1, 1) := by decide +kernel
theorem dX18_answersByBreadth_192 : decode cX18_answersByBreadth 192 = .ok (.aaload, 1) := by decide +kernel
theorem dX18_answersByBreadth_193 : decode cX18_answersByBreadth 193 = .ok (.aload_n 2, 1) := by decide +kernel
theorem dX18_answersByBreadth_194 : decode cX18_answersByBreadth 194 = .ok (.iconst 2, 1) := by decide +kernel
theorem dX18_answersByBreadth_195 : decode cX18_answersByBreadth 195 = .ok (.aaload, 1) := by decide +kernel
theorem dX18_answersByBreadth_196 : decode cX18_answersByBreadth 196 = .ok (.aconst_null, 1) := by decide +kernel
theorem dX18_answersByBreadth_197 : decode cX18_answersByBreadth 197 = .ok (.invokespecial 501, 3) := by decide +kernel
theorem dX18_answersByBreadth_200 : decode cX18_answersByBreadth 200 = .ok (.aconst_null, 1) := by decide +kernel
theorem dX18_answersByBreadth_201 : decode cX18_answersByBreadth 201 = .ok (.invokespecial 531, 3) := by decide +kernel
theorem dX18_answersByBreadth_204 : decode cX18_answersByBreadth 204 = .ok (.iconst 0, 1) := by decide +kernel
theorem dX18_answersByBreadth_205 : decode cX18_answersByBreadth 205 = .ok (.invokevirtual 538, 3) := by decide +kernel
theorem dX18_answersByBreadth_208 : decode cX18_answersByBreadth 208 = .ok (.istore_n 3, 1) := by decide +kernel
theorem dX18_answersByBreadth_209 : decode cX18_answersByBreadth 209 = .ok (.iload_n 3, 1) := by decide +kernel
theorem dX18_answersByBreadth_210 : decode cX18_answersByBreadth 210 = .ok (.iconst (-1), 1) := by decide +kernel
theorem dX18_answersByBreadth_211 : decode cX18_answersByBreadth 211 = .ok (.if_icmp .ne 11, 3) := by decide +kernel
theorem dX18_answersByBreadth_214 : decode cX18_answersByBreadth 214 = .ok (.aload_n 0, 1) := by decide +kernel
theorem dX18_answersByBreadth_215 : decode cX18_answersByBreadth 215 = .ok (.iconst 2, 1) := by decide +kernel
theorem dX18_answersByBreadth_216 : decode cX18_answersByBreadth 216 = .ok (.invokevirtual 141, 3) := by decide +kernel
theorem dX18_answersByBreadth_219 : decode cX18_answersByBreadth 219 = .ok (.goto 4, 3) := by decide +kernel
theorem dX18_answersByBreadth_222 : decode cX18_answersByBreadth 222 = .ok (.iload_n 3, 1) := by decide +kernel
theorem dX18_answersByBreadth_223 : decode cX18_answersByBreadth 223 = .ok (.ireturn, 1) := by decide +kernel
theorem dJx4a65c_grow_92f84_0 : decode cJx4a65c_grow_92f84 0 = .ok (.aload_n 0, 1) := by decide +kernel
theorem dJx4a65c_grow_92f84_1 : decode cJx4a65c_grow_92f84 1 = .ok (.getfield 9, 3) := by decide +kernel
theorem dJx4a65c_grow_92f84_4 : decode cJx4a65c_grow_92f84 4 = .ok (.arraylength, 1) := by decide +kernel
theorem dJx4a65c_grow_92f84_5 : decode cJx4a65c_grow_92f84 5 = .ok (.istore_n 2, 1) := by decide +kernel
theorem dJx4a65c_grow_92f84_6 : decode cJx4a65c_grow_92f84 6 = .ok (.iload_n 2, 1) := by decide +kernel
theorem dJx4a65c_grow_92f84_7 : decode cJx4a65c_grow_92f84 7 = .ok (.ifCond .gt 13, 3) := by decide +kernel
theorem dJx4a65c_grow_92f84_10 : decode cJx4a65c_grow_92f84 10 = .ok (.aload_n 0, 1) := by decide +kernel
theorem dJx4a65c_grow_92f84_11 : decode cJx4a65c_grow_92f84 11 = .ok (.getfield 9, 3) := by decide +kernel
theorem dJx4a65c_grow_92f84_14 : decode cJx4a65c_grow_92f84 14 = .ok (.getstatic 39, 3) := by decide +kernel
theorem dJx4a65c_grow_92f84_17 : decode cJx4a65c_grow_92f84 17 = .ok (.if_acmp .eq 28, 3) := by decide +kernel
theorem dJx4a65c_grow_92f84_20 : decode cJx4a65c_grow_92f84 20 = .ok (.iload_n 2, 1) := by decide +kernel
theorem dJx4a65c_grow_92f84_21 : decode cJx4a65c_grow_92f84 21 = .ok (.iload_n 1, 1) := by decide +kernel
theorem dJx4a65c_grow_92f84_22 : decode cJx4a65c_grow_92f84 22 = .ok (.iload_n 2, 1) := by decide +kernel
theorem dJx4a65c_grow_92f84_23 : decode cJx4a65c_grow_92f84 23 = .ok (.isub, 1) := by decide +kernel
theorem dJx4a65c_grow_92f84_24 : decode cJx4a65c_grow_92f84 24 = .ok (.iload_n 2, 1) := by decide +kernel
theorem dJx4a65c_grow_92f84_25 : decode cJx4a65c_grow_92f84 25 = .ok (.iconst 1, 1) := by decide +kernel
theorem dJx4a65c_grow_92f84_26 : decode cJx4a65c_grow_92f84 26 = .ok (.ishr, 1) := by decide +kernel
theorem dJx4a65c_grow_92f84_27 : decode cJx4a65c_grow_92f84 27 = .ok (.invokestatic 73, 3) := by decide +kernel
theorem dJx4a65c_grow_92f84_30 : decode cJx4a65c_grow_92f84 30 = .ok (.istore_n 3, 1) := by decide +kernel
theorem dJx4a65c_grow_92f84_31 : decode cJx4a65c_grow_92f84 31 = .ok (.aload_n 0, 1) := by decide +kernel
theorem dJx4a65c_grow_92f84_32 : decode cJx4a65c_grow_92f84 32 = .ok (.aload_n 0, 1) := by decide +kernel
theorem dJx4a65c_grow_92f84_33 : decode cJx4a65c_grow_92f84 33 = .ok (.getfield 9, 3) := by decide +kernel
theorem dJx4a65c_grow_92f84_36 : decode cJx4a65c_grow_92f84 36 = .ok (.iload_n 3, 1) := by decide +kernel
theorem dJx4a65c_grow_92f84_37 : decode cJx4a65c_grow_92f84 37 = .ok (.invokestatic 66, 3) := by decide +kernel
theorem dJx4a65c_grow_92f84_40 : decode cJx4a65c_grow_92f84 40 = .ok (.dup_x1, 1) := by decide +kernel
theorem dJx4a65c_grow_92f84_41 : decode cJx4a65c_grow_92f84 41 = .ok (.putfield 9, 3) := by decide +kernel
theorem dJx4a65c_grow_92f84_44 : decode cJx4a65c_grow_92f84 44 = .ok (.areturn, 1) := by decide +kernel
theorem dJx4a65c_grow_92f84_45 : decode cJx4a65c_grow_92f84 45 = .ok (.aload_n 0, 1) := by decide +kernel
theorem dJx4a65c_grow_92f84_46 : decode cJx4a65c_grow_92f84 46 = .ok (.bipush 10, 2) := by decide +kernel
theorem dJx4a65c_grow_92f84_48 : decode cJx4a65c_grow_92f84 48 = .ok (.iload_n 1, 1) := by decide +kernel
theorem dJx4a65c_grow_92f84_49 : decode cJx4a65c_grow_92f84 49 = .ok (.invokestatic 79, 3) := by decide +kernel
theorem dJx4a65c_grow_92f84_52 : decode cJx4a65c_grow_92f84 52 = .ok (.anewarray 7, 3) := by decide +kernel
theorem dJx4a65c_grow_92f84_55 : decode cJx4a65c_grow_92f84 55 = .ok (.dup_x1, 1) := by decide +kernel
theorem dJx4a65c_grow_92f84_56 : decode cJx4a65c_grow_92f84 56 = .ok (.putfield 9, 3) := by decide +kernel
theorem dJx4a65c_grow_92f84_59 : decode cJx4a65c_grow_92f84 59 = .ok (.areturn, 1) := by decide +kernel
set_option maxRecDepth 20000 in
theorem ggJx4a65c_grow_d5877_Jx4a65c_grow_92f84 : GoodIn wsJx4a65c_grow_d5877 wsJx4a65c_grow_92f84 := goodIn_r _ [6, 7, 8, 9, 10, 11, 12, 13, 14, 15, 16, 17, 18, 19, 20, 21, 22, 23, 24, 25, 26, 27, 28, 29, 30, 31, 32, 33, 34, 35, 36, 37, 38, 39, 40, 41, 42, 43, 44, 45] (by decide +kernel) (by decide +kernel)
set_option maxRecDepth 20000 in
theorem gJx4a65c_grow_d5877_Jx4a65c_grow_92f84 : GoodIn wsJx4a65c_grow_d5877 (wsV RJx4a65c 69 RJx4a65c yJx4a65c_grow_92f84 wsJx4a65c_grow_92f84) := goodIn_app (goodIn_of _ (by decide +kernel)) ggJx4a65c_grow_d5877_Jx4a65c_grow_92f84
theorem dJx4a65c_grow_d5877_0 : decode cJx4a65c_grow_d5877 0 = .ok (.aload_n 0, 1) := by decide +kernel
theorem dJx4a65c_grow_d5877_1 : decode cJx4a65c_grow_d5877 1 = .ok (.aload_n 0, 1) := by decide +kernel
theorem dJx4a65c_grow_d5877_2 : decode cJx4a65c_grow_d5877 2 = .ok (.getfield 48, 3) := by decide +kernel
theorem dJx4a65c_grow_d5877_5 : decode cJx4a65c_grow_d5877 5 = .ok (.iconst 1, 1) := by decide +kernel
theorem dJx4a65c_grow_d5877_6 : decode cJx4a65c_grow_d5877 6 = .ok (.iadd, 1) := by decide +kernel
theorem dJx4a65c_grow_d5877_7 : decode cJx4a65c_grow_d5877 7 = .ok (.invokevirtual 69, 3) := by decide +kernel
theorem dJx4a65c_grow_d5877_10 : decode cJx4a65c_grow_d5877 10 = .ok (.areturn, 1) := by decide +kernel
theorem dJx4a65c_size_8abf5_0 : decode cJx4a65c_size_8abf5 0 = .ok (.aload_n 0, 1) := by decide +kernel
theorem dJx4a65c_size_8abf5_1 : decode cJx4a65c_size_8abf5 1 = .ok (.getfield 48, 3) := by decide +kernel
theorem dJx4a65c_size_8abf5_4 : decode cJx4a65c_size_8abf5 4 = .ok (.ireturn, 1) := by decide +kernel
set_option maxRecDepth 20000 in
theorem ggJx4a65c_add_72be8_Jx4a65c_grow_d5877 : GoodIn wsJx4a65c_add_72be8 wsJx4a65c_grow_d5877 := goodIn_r _ [6, 1, 7, 8, 9, 5, 10, 11, 12, 13, 14, 15, 16, 17, 18, 19, 20, 21, 22, 23, 24, 25, 26, 27, 28, 29, 30, 31, 32, 33, 34, 35, 36, 37, 38, 39, 40, 41, 42, 43, 44, 45, 46, 47, 48, 49] (by decide +kernel) (by decide +kernel)
set_option maxRecDepth 20000 in
theorem gJx4a65c_add_72be8_Jx4a65c_grow_d5877 : GoodIn wsJx4a65c_add_72be8 (wsV RJx4a65c 129 RJx4a65c yJx4a65c_grow_d5877 wsJx4a65c_grow_d5877) := goodIn_app (goodIn_of _ (by decide +kernel)) ggJx4a65c_add_72be8_Jx4a65c_grow_d5877
theorem dJx4a65c_add_72be8_0 : decode cJx4a65c_add_72be8 0 = .ok (.iload_n 3, 1) := by decide +kernel
theorem dJx4a65c_add_72be8_1 : decode cJx4a65c_add_72be8 1 = .ok (.aload_n 2, 1) := by decide +kernel
theorem dJx4a65c_add_72be8_2 : decode cJx4a65c_add_72be8 2 = .ok (.arraylength, 1) := by decide +kernel
theorem dJx4a65c_add_72be8_3 : decode cJx4a65c_add_72be8 3 = .ok (.if_icmp .ne 8, 3) := by decide +kernel
theorem dJx4a65c_add_72be8_6 : decode cJx4a65c_add_72be8 6 = .ok (.aload_n 0, 1) := by decide +kernel
theorem dJx4a65c_add_72be8_7 : decode cJx4a65c_add_72be8 7 = .ok (.invokevirtual 129, 3) := by decide +kernel
theorem dJx4a65c_add_72be8_10 : decode cJx4a65c_add_72be8 10 = .ok (.astore_n 2, 1) := by decide +kernel
theorem dJx4a65c_add_72be8_11 : decode cJx4a65c_add_72be8 11 = .ok (.aload_n 2, 1) := by decide +kernel
theorem dJx4a65c_add_72be8_12 : decode cJx4a65c_add_72be8 12 = .ok (.iload_n 3, 1) := by decide +kernel
theorem dJx4a65c_add_72be8_13 : decode cJx4a65c_add_72be8 13 = .ok (.aload_n 1, 1) := by decide +kernel
theorem dJx4a65c_add_72be8_14 : decode cJx4a65c_add_72be8 14 = .ok (.aastore, 1) := by decide +kernel
theorem dJx4a65c_add_72be8_15 : decode cJx4a65c_add_72be8 15 = .ok (.aload_n 0, 1) := by decide +kernel
theorem dJx4a65c_add_72be8_16 : decode cJx4a65c_add_72be8 16 = .ok (.iload_n 3, 1) := by decide +kernel
theorem dJx4a65c_add_72be8_17 : decode cJx4a65c_add_72be8 17 = .ok (.iconst 1, 1) := by decide +kernel
theorem dJx4a65c_add_72be8_18 : decode cJx4a65c_add_72be8 18 = .ok (.iadd, 1) := by decide +kernel
theorem dJx4a65c_add_72be8_19 : decode cJx4a65c_add_72be8 19 = .ok (.putfield 48, 3) := by decide +kernel
theorem dJx4a65c_add_72be8_22 : decode cJx4a65c_add_72be8 22 = .ok (.return_, 1) := by decide +kernel
set_option maxRecDepth 20000 in
theorem ggJx4a65c_add_9ea2d_Jx4a65c_add_72be8 : GoodIn wsJx4a65c_add_9ea2d wsJx4a65c_add_72be8 := goodIn_r _ [9, 4, 10, 11, 12, 8, 13, 14, 15, 16, 17, 3, 18, 19, 20, 21, 22, 23, 24, 25, 26, 27, 28, 29, 30, 31, 32, 33, 34, 35, 36, 37, 38, 39, 40, 41, 42, 43, 44, 45, 46, 47, 48, 49, 50, 51, 52, 53, 54, 55] (by decide +kernel) (by decide +kernel)
set_option maxRecDepth 20000 in
theorem gJx4a65c_add_9ea2d_Jx4a65c_add_72be8 : GoodIn wsJx4a65c_add_9ea2d (wsV RJx4a65c 131 RJx4a65c yJx4a65c_add_72be8 wsJx4a65c_add_72be8) := goodIn_app (goodIn_of _ (by decide +kernel)) ggJx4a65c_add_9ea2d_Jx4a65c_add_72be8
theorem dJx4a65c_add_9ea2d_0 : decode cJx4a65c_add_9ea2d 0 = .ok (.aload_n 0, 1) := by decide +kernel
theorem dJx4a65c_add_9ea2d_1 : decode cJx4a65c_add_9ea2d 1 = .ok (.dup, 1) := by decide +kernel
theorem dJx4a65c_add_9ea2d_2 : decode cJx4a65c_add_9ea2d 2 = .ok (.getfield 63, 3) := by decide +kernel
theorem dJx4a65c_add_9ea2d_5 : decode cJx4a65c_add_9ea2d 5 = .ok (.iconst 1, 1) := by decide +kernel
theorem dJx4a65c_add_9ea2d_6 : decode cJx4a65c_add_9ea2d 6 = .ok (.iadd, 1) := by decide +kernel
theorem dJx4a65c_add_9ea2d_7 : decode cJx4a65c_add_9ea2d 7 = .ok (.putfield 63, 3) := by decide +kernel
theorem dJx4a65c_add_9ea2d_10 : decode cJx4a65c_add_9ea2d 10 = .ok (.aload_n 0, 1) := by decide +kernel
theorem dJx4a65c_add_9ea2d_11 : decode cJx4a65c_add_9ea2d 11 = .ok (.aload_n 1, 1) := by decide +kernel
theorem dJx4a65c_add_9ea2d_12 : decode cJx4a65c_add_9ea2d 12 = .ok (.aload_n 0, 1) := by decide +kernel
theorem dJx4a65c_add_9ea2d_13 : decode cJx4a65c_add_9ea2d 13 = .ok (.getfield 9, 3) := by decide +kernel
theorem dJx4a65c_add_9ea2d_16 : decode cJx4a65c_add_9ea2d 16 = .ok (.aload_n 0, 1) := by decide +kernel
theorem dJx4a65c_add_9ea2d_17 : decode cJx4a65c_add_9ea2d 17 = .ok (.getfield 48, 3) := by decide +kernel
theorem dJx4a65c_add_9ea2d_20 : decode cJx4a65c_add_9ea2d 20 = .ok (.invokevirtual 131, 3) := by decide +kernel
theorem dJx4a65c_add_9ea2d_23 : decode cJx4a65c_add_9ea2d 23 = .ok (.iconst 1, 1) := by decide +kernel
theorem dJx4a65c_add_9ea2d_24 : decode cJx4a65c_add_9ea2d 24 = .ok (.ireturn, 1) := by decide +kernel
