def tyX0 : Nat → FieldType := fun k => match k with
  | 0 => .object "BallPots$Draws"
  | 1 => .object "BallPots$Plan"
  | 2 => .object "BallPots$Ranks"
  | 3 => .array .int
  | _ => .boolean
abbrev wsX00 : List Cond := u_ws RX0 TX0 5
theorem nmX0 : ∀ a, a < 5 → ∀ b, b < 5 → a ≠ b → (TX0 a).2.1 ≠ (TX0 b).2.1 := by decide +kernel
theorem tyX0_ok : ∀ k, k < 5 → parseFieldDescriptor (TX0 k).2.2.1 = some (tyX0 k) := by decide +kernel
def tyX1 : Nat → FieldType := fun k => match k with
  | 0 => .array .long
  | 1 => .array .long
  | 2 => .long
  | _ => .boolean
abbrev wsX10 : List Cond := u_ws RX1 TX1 4
theorem nmX1 : ∀ a, a < 4 → ∀ b, b < 4 → a ≠ b → (TX1 a).2.1 ≠ (TX1 b).2.1 := by decide +kernel
theorem tyX1_ok : ∀ k, k < 4 → parseFieldDescriptor (TX1 k).2.2.1 = some (tyX1 k) := by decide +kernel
def tyX2 : Nat → FieldType := fun k => match k with
  | 0 => .object "BallPots$Plan"
  | 1 => .object "BallPots$Ranks"
  | 2 => .int
  | 3 => .int
  | 4 => .array .int
  | 5 => .array .int
  | 6 => .array .int
  | 7 => .array .int
  | 8 => .array .int
  | _ => .array .int
abbrev wsX20 : List Cond := u_ws RX2 TX2 10
theorem nmX2 : ∀ a, a < 10 → ∀ b, b < 10 → a ≠ b → (TX2 a).2.1 ≠ (TX2 b).2.1 := by decide +kernel
theorem tyX2_ok : ∀ k, k < 10 → parseFieldDescriptor (TX2 k).2.2.1 = some (tyX2 k) := by decide +kernel
abbrev cX2_renew : ByteArray := prog_4_method_2_code
def yX2_renew : MethodName := ⟨RX2, "renew", "()V"⟩
abbrev cX2_tellHeld : ByteArray := prog_4_method_3_code
def yX2_tellHeld : MethodName := ⟨RX2, "tellHeld", "(I)V"⟩
abbrev cX2_breakBar : ByteArray := prog_4_method_4_code
def yX2_breakBar : MethodName := ⟨RX2, "breakBar", "(II)V"⟩
abbrev cX2_listLawful : ByteArray := prog_4_method_5_code
def yX2_listLawful : MethodName := ⟨RX2, "listLawful", "()V"⟩
abbrev cX2_tellWithin : ByteArray := prog_4_method_6_code
def yX2_tellWithin : MethodName := ⟨RX2, "tellWithin", "()V"⟩
abbrev cX2_addUp : ByteArray := prog_4_method_7_code
def yX2_addUp : MethodName := ⟨RX2, "addUp", "([II)V"⟩
abbrev cX2_fewest : ByteArray := prog_4_method_8_code
def yX2_fewest : MethodName := ⟨RX2, "fewest", "([II)I"⟩
abbrev cX2_rankIn : ByteArray := prog_4_method_12_code
def yX2_rankIn : MethodName := ⟨RX2, "rankIn", "(II)I"⟩
abbrev cX2_groupIn : ByteArray := prog_4_method_13_code
def yX2_groupIn : MethodName := ⟨RX2, "groupIn", "(II)I"⟩
def tyX3 : Nat → FieldType := fun k => match k with
  | 0 => .int
  | 1 => .int
  | 2 => .int
  | 3 => .int
  | 4 => .int
  | 5 => .array .int
  | 6 => .array .int
  | 7 => .array .int
  | 8 => .array .int
  | 9 => .array .int
  | _ => .int
abbrev wsX30 : List Cond := u_ws RX3 TX3 11
theorem nmX3 : ∀ a, a < 11 → ∀ b, b < 11 → a ≠ b → (TX3 a).2.1 ≠ (TX3 b).2.1 := by decide +kernel
theorem tyX3_ok : ∀ k, k < 11 → parseFieldDescriptor (TX3 k).2.2.1 = some (tyX3 k) := by decide +kernel
abbrev cX3_forget : ByteArray := prog_5_method_2_code
def yX3_forget : MethodName := ⟨RX3, "forget", "()V"⟩
abbrev cX3_take : ByteArray := prog_5_method_3_code
def yX3_take : MethodName := ⟨RX3, "take", "(LBallPots$Plan;)V"⟩
abbrev cX3_addTeam : ByteArray := prog_5_method_4_code
def yX3_addTeam : MethodName := ⟨RX3, "addTeam", "(I)V"⟩
abbrev cX3_addMark : ByteArray := prog_5_method_5_code
def yX3_addMark : MethodName := ⟨RX3, "addMark", "(I)V"⟩
abbrev cX3_teamNamed : ByteArray := prog_5_method_6_code
def yX3_teamNamed : MethodName := ⟨RX3, "teamNamed", "(I)I"⟩
abbrev cX3_markNamed : ByteArray := prog_5_method_7_code
def yX3_markNamed : MethodName := ⟨RX3, "markNamed", "(I)I"⟩
abbrev cX3_find : ByteArray := prog_5_method_8_code
def yX3_find : MethodName := ⟨RX3, "find", "([III)I"⟩
abbrev cX3_potOf : ByteArray := prog_5_method_9_code
def yX3_potOf : MethodName := ⟨RX3, "potOf", "(I)I"⟩
abbrev cX3_placeOf : ByteArray := prog_5_method_10_code
def yX3_placeOf : MethodName := ⟨RX3, "placeOf", "(I)I"⟩
abbrev cX3_teamsMarked : ByteArray := prog_5_method_13_code
def yX3_teamsMarked : MethodName := ⟨RX3, "teamsMarked", "(I)I"⟩
abbrev cX3_addAtMost : ByteArray := prog_5_method_14_code
def yX3_addAtMost : MethodName := ⟨RX3, "addAtMost", "(II)V"⟩
abbrev cX3_addNever : ByteArray := prog_5_method_15_code
def yX3_addNever : MethodName := ⟨RX3, "addNever", "(II)V"⟩
abbrev cX3_addFixed : ByteArray := prog_5_method_16_code
def yX3_addFixed : MethodName := ⟨RX3, "addFixed", "(II)V"⟩
abbrev cX3_addBar : ByteArray := prog_5_method_17_code
def yX3_addBar : MethodName := ⟨RX3, "addBar", "(II)V"⟩
def tyX4 : Nat → FieldType := fun k => match k with
  | 0 => .int
  | 1 => .int
  | 2 => .int
  | 3 => .int
  | 4 => .array .int
  | 5 => .array .int
  | 6 => .array .int
  | 7 => .array .int
  | _ => .array .int
abbrev wsX40 : List Cond := u_ws RX4 TX4 9
theorem nmX4 : ∀ a, a < 9 → ∀ b, b < 9 → a ≠ b → (TX4 a).2.1 ≠ (TX4 b).2.1 := by decide +kernel
theorem tyX4_ok : ∀ k, k < 9 → parseFieldDescriptor (TX4 k).2.2.1 = some (tyX4 k) := by decide +kernel
abbrev cX4_set : ByteArray := prog_6_method_2_code
def yX4_set : MethodName := ⟨RX4, "set", "(I)V"⟩
abbrev cX4_readRow : ByteArray := prog_6_method_3_code
def yX4_readRow : MethodName := ⟨RX4, "readRow", "(II[I)Z"⟩
abbrev cX4_addRow : ByteArray := prog_6_method_4_code
def yX4_addRow : MethodName := ⟨RX4, "addRow", "()V"⟩
abbrev cX4_setSwaps : ByteArray := prog_6_method_5_code
def yX4_setSwaps : MethodName := ⟨RX4, "setSwaps", "(I)V"⟩
abbrev cX4_rankWithSwapped : ByteArray := prog_6_method_6_code
def yX4_rankWithSwapped : MethodName := ⟨RX4, "rankWithSwapped", "(III)I"⟩
abbrev cX4_groupAt : ByteArray := prog_6_method_7_code
def yX4_groupAt : MethodName := ⟨RX4, "groupAt", "(II)I"⟩
abbrev cX4_only : ByteArray := prog_6_method_8_code
def yX4_only : MethodName := ⟨RX4, "only", "(I)I"⟩
def tyX5 : Nat → FieldType := fun k => match k with
  | 0 => .array .int
  | 1 => .object "BallPots$Plan"
  | 2 => .int
  | 3 => .int
  | 4 => .int
  | 5 => .int
  | 6 => .int
  | 7 => .int
  | _ => .int
abbrev wsX50 : List Cond := u_ws RX5 TX5 9
theorem nmX5 : ∀ a, a < 9 → ∀ b, b < 9 → a ≠ b → (TX5 a).2.1 ≠ (TX5 b).2.1 := by decide +kernel
theorem tyX5_ok : ∀ k, k < 9 → parseFieldDescriptor (TX5 k).2.2.1 = some (tyX5 k) := by decide +kernel
abbrev cX5_readLines : ByteArray := prog_7_method_2_code
def yX5_readLines : MethodName := ⟨RX5, "readLines", "(I)I"⟩
abbrev cX5_fail : ByteArray := prog_7_method_3_code
def yX5_fail : MethodName := ⟨RX5, "fail", "(I)Z"⟩
abbrev cX5_step : ByteArray := prog_7_method_4_code
def yX5_step : MethodName := ⟨RX5, "step", "()V"⟩
abbrev cX5_stepWord : ByteArray := prog_7_method_5_code
def yX5_stepWord : MethodName := ⟨RX5, "stepWord", "()V"⟩
abbrev cX5_stepNumber : ByteArray := prog_7_method_6_code
def yX5_stepNumber : MethodName := ⟨RX5, "stepNumber", "()V"⟩
abbrev cX5_isBlank : ByteArray := prog_7_method_7_code
def yX5_isBlank : MethodName := ⟨RX5, "isBlank", "(I)Z"⟩
abbrev cX5_isLetter : ByteArray := prog_7_method_8_code
def yX5_isLetter : MethodName := ⟨RX5, "isLetter", "(I)Z"⟩
abbrev cX5_isDigit : ByteArray := prog_7_method_9_code
def yX5_isDigit : MethodName := ⟨RX5, "isDigit", "(I)Z"⟩
abbrev cX5_readLine : ByteArray := prog_7_method_10_code
def yX5_readLine : MethodName := ⟨RX5, "readLine", "(Z)Z"⟩
abbrev cX5_readUpToStop : ByteArray := prog_7_method_11_code
def yX5_readUpToStop : MethodName := ⟨RX5, "readUpToStop", "(Z)Z"⟩
abbrev cX5_readGroups : ByteArray := prog_7_method_12_code
def yX5_readGroups : MethodName := ⟨RX5, "readGroups", "()Z"⟩
abbrev cX5_readPot : ByteArray := prog_7_method_13_code
def yX5_readPot : MethodName := ⟨RX5, "readPot", "()Z"⟩
abbrev cX5_readMark : ByteArray := prog_7_method_14_code
def yX5_readMark : MethodName := ⟨RX5, "readMark", "()Z"⟩
abbrev cX5_isRoomForBar : ByteArray := prog_7_method_15_code
def yX5_isRoomForBar : MethodName := ⟨RX5, "isRoomForBar", "()Z"⟩
abbrev cX5_readAtMost : ByteArray := prog_7_method_16_code
def yX5_readAtMost : MethodName := ⟨RX5, "readAtMost", "()Z"⟩
abbrev cX5_readApart : ByteArray := prog_7_method_17_code
def yX5_readApart : MethodName := ⟨RX5, "readApart", "()Z"⟩
abbrev cX5_readHeld : ByteArray := prog_7_method_18_code
def yX5_readHeld : MethodName := ⟨RX5, "readHeld", "(Z)Z"⟩
abbrev cX5_readStop : ByteArray := prog_7_method_19_code
def yX5_readStop : MethodName := ⟨RX5, "readStop", "()Z"⟩
abbrev cX5_isNumber : ByteArray := prog_7_method_20_code
def yX5_isNumber : MethodName := ⟨RX5, "isNumber", "(II)Z"⟩
abbrev cX5_isName : ByteArray := prog_7_method_21_code
def yX5_isName : MethodName := ⟨RX5, "isName", "()Z"⟩
abbrev cX5_isOfLanguage : ByteArray := prog_7_method_22_code
def yX5_isOfLanguage : MethodName := ⟨RX5, "isOfLanguage", "(I)Z"⟩
abbrev cX5_readTeam : ByteArray := prog_7_method_23_code
def yX5_readTeam : MethodName := ⟨RX5, "readTeam", "()I"⟩
def tyX8 : Nat → FieldType := fun k => match k with
  | 0 => .object "BallPots$Plan"
  | 1 => .object "BallPots$Ranks"
  | 2 => .array .int
  | 3 => .array .int
  | 4 => .array .int
  | 5 => .array .int
  | 6 => .int
  | _ => .array .int
abbrev wsX80 : List Cond := u_ws RX8 TX8 8
theorem nmX8 : ∀ a, a < 8 → ∀ b, b < 8 → a ≠ b → (TX8 a).2.1 ≠ (TX8 b).2.1 := by decide +kernel
theorem tyX8_ok : ∀ k, k < 8 → parseFieldDescriptor (TX8 k).2.2.1 = some (tyX8 k) := by decide +kernel
abbrev cX8_putInTurn : ByteArray := prog_10_method_2_code
def yX8_putInTurn : MethodName := ⟨RX8, "putInTurn", "()V"⟩
abbrev cX8_empty : ByteArray := prog_10_method_3_code
def yX8_empty : MethodName := ⟨RX8, "empty", "()V"⟩
abbrev cX8_fullPots : ByteArray := prog_10_method_7_code
def yX8_fullPots : MethodName := ⟨RX8, "fullPots", "()I"⟩
abbrev cX8_potInTurn : ByteArray := prog_10_method_9_code
def yX8_potInTurn : MethodName := ⟨RX8, "potInTurn", "()I"⟩
abbrev cX8_ranksLeft : ByteArray := prog_10_method_10_code
def yX8_ranksLeft : MethodName := ⟨RX8, "ranksLeft", "(I)I"⟩
abbrev cX8_ranksIf : ByteArray := prog_10_method_12_code
def yX8_ranksIf : MethodName := ⟨RX8, "ranksIf", "(III)I"⟩
def tyX9 : Nat → FieldType := fun k => match k with
  | 0 => .object "BallPots$Draws"
  | 1 => .object "BallPots$Ranks"
  | 2 => .array .int
  | 3 => .array .int
  | 4 => .int
  | 5 => .boolean
  | 6 => .int
  | 7 => .int
  | 8 => .int
  | _ => .int
abbrev wsX90 : List Cond := u_ws RX9 TX9 10
theorem nmX9 : ∀ a, a < 10 → ∀ b, b < 10 → a ≠ b → (TX9 a).2.1 ≠ (TX9 b).2.1 := by decide +kernel
theorem tyX9_ok : ∀ k, k < 10 → parseFieldDescriptor (TX9 k).2.2.1 = some (tyX9 k) := by decide +kernel
abbrev cX9_forget : ByteArray := prog_11_method_2_code
def yX9_forget : MethodName := ⟨RX9, "forget", "()V"⟩
def tyX10 : Nat → FieldType := fun k => match k with
  | 0 => .object "BallPots$Draws"
  | 1 => .array .int
  | 2 => .array .int
  | 3 => .array .int
  | _ => .boolean
abbrev wsX100 : List Cond := u_ws RX10 TX10 5
theorem nmX10 : ∀ a, a < 5 → ∀ b, b < 5 → a ≠ b → (TX10 a).2.1 ≠ (TX10 b).2.1 := by decide +kernel
theorem tyX10_ok : ∀ k, k < 5 → parseFieldDescriptor (TX10 k).2.2.1 = some (tyX10 k) := by decide +kernel
abbrev cX10_build : ByteArray := prog_12_method_3_code
def yX10_build : MethodName := ⟨RX10, "build", "([I)V"⟩
abbrev cX10_fillLast : ByteArray := prog_12_method_4_code
def yX10_fillLast : MethodName := ⟨RX10, "fillLast", "()V"⟩
abbrev cX10_codeOf : ByteArray := prog_12_method_5_code
def yX10_codeOf : MethodName := ⟨RX10, "codeOf", "(II)I"⟩
abbrev cX10_fillFromNext : ByteArray := prog_12_method_6_code
def yX10_fillFromNext : MethodName := ⟨RX10, "fillFromNext", "(I)V"⟩
def tyX11 : Nat → FieldType := fun k => match k with
  | 0 => .array .int
  | 1 => .int
  | 2 => .object "BallPots$Plan"
  | 3 => .object "BallPots$Reader"
  | 4 => .object "BallPots$Ranks"
  | 5 => .object "BallPots$Draws"
  | 6 => .object "BallPots$Stage"
  | 7 => .object "BallPots$Tree"
  | 8 => .object "BallPots$Tree"
  | 9 => .object "BallPots$Tree"
  | 10 => .object "BallPots$Reckoner"
  | 11 => .array (.object "BallPots$Chances")
  | 12 => .array (.object "BallPots$Chances")
  | 13 => .object "BallPots$Chances"
  | 14 => .object "BallPots$BarTable"
  | 15 => .object "BallPots$Swaps"
  | 16 => .int
  | _ => .int
abbrev wsX110 : List Cond := u_ws RX11 TX11 18
theorem nmX11 : ∀ a, a < 18 → ∀ b, b < 18 → a ≠ b → (TX11 a).2.1 ≠ (TX11 b).2.1 := by decide +kernel
theorem tyX11_ok : ∀ k, k < 18 → parseFieldDescriptor (TX11 k).2.2.1 = some (tyX11 k) := by decide +kernel
abbrev cX11_feed : ByteArray := prog_1_method_2_code
def yX11_feed : MethodName := ⟨RX11, "feed", "(IIIII)I"⟩
abbrev cX11_tapeFour : ByteArray := prog_1_method_3_code
def yX11_tapeFour : MethodName := ⟨RX11, "tapeFour", "(I)V"⟩
abbrev cX11_text : ByteArray := prog_1_method_4_code
def yX11_text : MethodName := ⟨RX11, "text", "(I)I"⟩
abbrev cX11_beginAnew : ByteArray := prog_1_method_5_code
def yX11_beginAnew : MethodName := ⟨RX11, "beginAnew", "()V"⟩
abbrev cX11_startChanged : ByteArray := prog_1_method_6_code
def yX11_startChanged : MethodName := ⟨RX11, "startChanged", "()V"⟩
abbrev cX11_stageChanged : ByteArray := prog_1_method_7_code
def yX11_stageChanged : MethodName := ⟨RX11, "stageChanged", "()V"⟩
abbrev cX11_fault : ByteArray := prog_1_method_8_code
def yX11_fault : MethodName := ⟨RX11, "fault", "(I)I"⟩
abbrev cX11_named : ByteArray := prog_1_method_9_code
def yX11_named : MethodName := ⟨RX11, "named", "(II)I"⟩
abbrev cX11_lawful : ByteArray := prog_1_method_10_code
def yX11_lawful : MethodName := ⟨RX11, "lawful", "()I"⟩
abbrev cX11_without : ByteArray := prog_1_method_11_code
def yX11_without : MethodName := ⟨RX11, "without", "(I)I"⟩
abbrev cX11_forbids : ByteArray := prog_1_method_12_code
def yX11_forbids : MethodName := ⟨RX11, "forbids", "()I"⟩
abbrev cX11_draw : ByteArray := prog_1_method_13_code
def yX11_draw : MethodName := ⟨RX11, "draw", "(II)I"⟩
abbrev cX11_judge : ByteArray := prog_1_method_14_code
def yX11_judge : MethodName := ⟨RX11, "judge", "(I)I"⟩
abbrev cX11_isTeam : ByteArray := prog_1_method_15_code
def yX11_isTeam : MethodName := ⟨RX11, "isTeam", "(I)Z"⟩
abbrev cX11_isBar : ByteArray := prog_1_method_17_code
def yX11_isBar : MethodName := ⟨RX11, "isBar", "(I)Z"⟩
abbrev cX11_isCode : ByteArray := prog_1_method_18_code
def yX11_isCode : MethodName := ⟨RX11, "isCode", "(I)Z"⟩
abbrev cX11_order : ByteArray := prog_1_method_20_code
def yX11_order : MethodName := ⟨RX11, "order", "(I)Z"⟩
abbrev cX11_arrange : ByteArray := prog_1_method_21_code
def yX11_arrange : MethodName := ⟨RX11, "arrange", "(I)Z"⟩
abbrev cX11_readTurns : ByteArray := prog_1_method_22_code
def yX11_readTurns : MethodName := ⟨RX11, "readTurns", "(II[I)Z"⟩
abbrev cX11_treeOfNow : ByteArray := prog_1_method_23_code
def yX11_treeOfNow : MethodName := ⟨RX11, "treeOfNow", "()LBallPots$Tree;"⟩
abbrev wsJx000600 : List Cond := u_ws RJx00060 TJx00060 6
def RJ6 : String := "java/lang/Integer"
abbrev cJ6_bitCount_0f7a4 : ByteArray := prog_20_method_49_code
def yJ6_bitCount_0f7a4 : MethodName := ⟨RJ6, "bitCount", "(I)I"⟩
def RJ7 : String := "java/util/Arrays"
abbrev cJ7_rangeCheck_23922 : ByteArray := prog_29_method_30_code
def yJ7_rangeCheck_23922 : MethodName := ⟨RJ7, "rangeCheck", "(III)V"⟩
abbrev cJ7_fill_53178 : ByteArray := prog_29_method_103_code
def yJ7_fill_53178 : MethodName := ⟨RJ7, "fill", "([II)V"⟩
abbrev cJ7_fill_fda19 : ByteArray := prog_29_method_104_code
def yJ7_fill_fda19 : MethodName := ⟨RJ7, "fill", "([IIII)V"⟩
def wsJ7_fill_53178 : List Cond := .code yJ7_fill_53178 cJ7_fill_53178 4 none :: ([])
def wsJ6_bitCount_0f7a4 : List Cond := .code yJ6_bitCount_0f7a4 cJ6_bitCount_0f7a4 1 (some .int) :: ([.constant RJ6 265 (1431655765), .constant RJ6 266 (858993459), .constant RJ6 267 (252645135)])
def wsX4_only : List Cond := .code yX4_only cX4_only 1 (some .int) :: ([.methodLink RX4 69 yJ6_bitCount_0f7a4, .static yJ6_bitCount_0f7a4, .initialized RJ6, .code yJ6_bitCount_0f7a4 cJ6_bitCount_0f7a4 1 (some .int), .constant RJ6 265 (1431655765), .constant RJ6 266 (858993459), .constant RJ6 267 (252645135)])
def wsX2_rankIn : List Cond := .code yX2_rankIn cX2_rankIn 5 (some .int) :: ([.fieldLink RX2 9 "BallPots$Draws" "step" "[I", .fieldLink RX2 34 "BallPots$Draws" "ranks" "LBallPots$Ranks;"] ++ wsX20 ++ wsX40)
def wsX3_potOf : List Cond := .code yX3_potOf cX3_potOf 2 (some .int) :: ([.fieldLink RX3 27 "BallPots$Plan" "groups" "I"] ++ wsX30)
def wsJ7_rangeCheck_23922 : List Cond := .code yJ7_rangeCheck_23922 cJ7_rangeCheck_23922 3 none :: ([.classLink RJ7 68 RJx00060, .instantiable RJx00060 6, .initialized RJx00060] ++ wsJx000600)
def wsJ7_fill_fda19 : List Cond := .code yJ7_fill_fda19 cJ7_fill_fda19 5 none :: ([.methodLink RJ7 13 yJ7_rangeCheck_23922, .static yJ7_rangeCheck_23922, .initialized RJ7, .code yJ7_rangeCheck_23922 cJ7_rangeCheck_23922 3 none, .classLink RJ7 68 RJx00060, .instantiable RJx00060 6, .initialized RJx00060] ++ wsJx000600)
def wsX4_groupAt : List Cond := .code yX4_groupAt cX4_groupAt 3 (some .int) :: ([.fieldLink RX4 9 "BallPots$Ranks" "groupOf" "[I"] ++ wsX40)
def wsX2_tellHeld : List Cond := .code yX2_tellHeld cX2_tellHeld 7 none :: ([.fieldLink RX2 30 "BallPots$Draws" "plan" "LBallPots$Plan;", .fieldLink RX2 34 "BallPots$Draws" "ranks" "LBallPots$Ranks;", .fieldLink RX2 27 "BallPots$Draws" "held" "[I", .methodLink RX2 84 yX4_groupAt, .instanceMethod yX4_groupAt, .selects RX4 yX4_groupAt yX4_groupAt, .initialized RX4, .code yX4_groupAt cX4_groupAt 3 (some .int), .fieldLink RX4 9 "BallPots$Ranks" "groupOf" "[I"] ++ wsX20 ++ wsX30 ++ wsX40)
def wsX2_breakBar : List Cond := .code yX2_breakBar cX2_breakBar 8 none :: ([.fieldLink RX2 30 "BallPots$Draws" "plan" "LBallPots$Plan;", .fieldLink RX2 34 "BallPots$Draws" "ranks" "LBallPots$Ranks;", .fieldLink RX2 38 "BallPots$Draws" "total" "I", .fieldLink RX2 27 "BallPots$Draws" "held" "[I", .constant RX2 91 (34952), .fieldLink RX2 15 "BallPots$Draws" "broken" "[I", .methodLink RX2 88 yX2_rankIn, .instanceMethod yX2_rankIn, .selects RX2 yX2_rankIn yX2_rankIn, .initialized RX2, .code yX2_rankIn cX2_rankIn 5 (some .int), .fieldLink RX2 9 "BallPots$Draws" "step" "[I"] ++ wsX20 ++ wsX30 ++ wsX40)
def wsX2_listLawful : List Cond := .code yX2_listLawful cX2_listLawful 2 none :: ([.fieldLink RX2 92 "BallPots$Draws" "lawfulOnes" "I", .fieldLink RX2 38 "BallPots$Draws" "total" "I", .fieldLink RX2 15 "BallPots$Draws" "broken" "[I", .fieldLink RX2 18 "BallPots$Draws" "lawfulCodes" "[I"] ++ wsX20)
def wsX2_addUp : List Cond := .code yX2_addUp cX2_addUp 5 none :: ([])
def wsX2_tellWithin : List Cond := .code yX2_tellWithin cX2_tellWithin 2 none :: ([.fieldLink RX2 21 "BallPots$Draws" "within" "[I", .fieldLink RX2 38 "BallPots$Draws" "total" "I", .fieldLink RX2 15 "BallPots$Draws" "broken" "[I", .fieldLink RX2 30 "BallPots$Draws" "plan" "LBallPots$Plan;", .methodLink RX2 95 yJ7_fill_53178, .static yJ7_fill_53178, .initialized RJ7, .code yJ7_fill_53178 cJ7_fill_53178 4 none, .methodLink RX2 98 yX2_addUp, .static yX2_addUp, .initialized RX2, .code yX2_addUp cX2_addUp 5 none] ++ wsX20 ++ wsX30)
def wsX2_renew_r1 : List Cond := [Cond.fieldLink RX2 38 "BallPots$Draws" "total" "I", Cond.fieldLink RX2 30 "BallPots$Draws" "plan" "LBallPots$Plan;", Cond.fieldLink RX2 9 "BallPots$Draws" "step" "[I", Cond.fieldLink RX2 34 "BallPots$Draws" "ranks" "LBallPots$Ranks;", Cond.fieldLink RX2 15 "BallPots$Draws" "broken" "[I", Cond.arrayClass .int, Cond.fieldLink RX2 18 "BallPots$Draws" "lawfulCodes" "[I", Cond.methodLink RX2 52 yJ7_fill_fda19, Cond.static yJ7_fill_fda19, Cond.initialized RJ7, Cond.code yJ7_fill_fda19 cJ7_fill_fda19 5 none, Cond.methodLink RJ7 13 yJ7_rangeCheck_23922, Cond.static yJ7_rangeCheck_23922, Cond.code yJ7_rangeCheck_23922 cJ7_rangeCheck_23922 3 none, Cond.classLink RJ7 68 RJx00060, Cond.instantiable RJx00060 6, Cond.initialized RJx00060, Cond.methodLink RX2 64 yX2_tellHeld, Cond.instanceMethod yX2_tellHeld, Cond.selects RX2 yX2_tellHeld yX2_tellHeld, Cond.initialized RX2, Cond.code yX2_tellHeld cX2_tellHeld 7 none, Cond.fieldLink RX2 27 "BallPots$Draws" "held" "[I", Cond.methodLink RX2 84 yX4_groupAt]
def wsX2_renew_r2 : List Cond := [Cond.instanceMethod yX4_groupAt, Cond.selects RX4 yX4_groupAt yX4_groupAt, Cond.initialized RX4, Cond.code yX4_groupAt cX4_groupAt 3 (some .int), Cond.fieldLink RX4 9 "BallPots$Ranks" "groupOf" "[I", Cond.methodLink RX2 71 yX2_breakBar, Cond.instanceMethod yX2_breakBar, Cond.selects RX2 yX2_breakBar yX2_breakBar, Cond.code yX2_breakBar cX2_breakBar 8 none, Cond.constant RX2 91 (34952), Cond.methodLink RX2 88 yX2_rankIn, Cond.instanceMethod yX2_rankIn, Cond.selects RX2 yX2_rankIn yX2_rankIn, Cond.code yX2_rankIn cX2_rankIn 5 (some .int), Cond.methodLink RX2 75 yX2_listLawful, Cond.instanceMethod yX2_listLawful, Cond.selects RX2 yX2_listLawful yX2_listLawful, Cond.code yX2_listLawful cX2_listLawful 2 none, Cond.fieldLink RX2 92 "BallPots$Draws" "lawfulOnes" "I", Cond.methodLink RX2 78 yX2_tellWithin, Cond.instanceMethod yX2_tellWithin, Cond.selects RX2 yX2_tellWithin yX2_tellWithin, Cond.code yX2_tellWithin cX2_tellWithin 2 none, Cond.fieldLink RX2 21 "BallPots$Draws" "within" "[I"]
def wsX2_renew_r3 : List Cond := [Cond.methodLink RX2 95 yJ7_fill_53178, Cond.static yJ7_fill_53178, Cond.code yJ7_fill_53178 cJ7_fill_53178 4 none, Cond.methodLink RX2 98 yX2_addUp, Cond.static yX2_addUp, Cond.code yX2_addUp cX2_addUp 5 none]
def wsX2_renew : List Cond := .code yX2_renew cX2_renew 2 none :: ((wsX2_renew_r1 ++ (wsX2_renew_r2 ++ wsX2_renew_r3)) ++ wsX20 ++ wsX30 ++ wsX40 ++ wsJx000600)
def wsX2_fewest : List Cond := .code yX2_fewest cX2_fewest 5 (some .int) :: ([.methodLink RX2 101 yJ6_bitCount_0f7a4, .static yJ6_bitCount_0f7a4, .initialized RJ6, .code yJ6_bitCount_0f7a4 cJ6_bitCount_0f7a4 1 (some .int), .constant RJ6 265 (1431655765), .constant RJ6 266 (858993459), .constant RJ6 267 (252645135)])
def wsX3_placeOf : List Cond := .code yX3_placeOf cX3_placeOf 2 (some .int) :: ([.fieldLink RX3 27 "BallPots$Plan" "groups" "I"] ++ wsX30)
def wsX2_groupIn : List Cond := .code yX2_groupIn cX2_groupIn 3 (some .int) :: ([.fieldLink RX2 34 "BallPots$Draws" "ranks" "LBallPots$Ranks;", .fieldLink RX2 30 "BallPots$Draws" "plan" "LBallPots$Plan;", .methodLink RX2 115 yX3_potOf, .instanceMethod yX3_potOf, .selects RX3 yX3_potOf yX3_potOf, .initialized RX3, .code yX3_potOf cX3_potOf 2 (some .int), .fieldLink RX3 27 "BallPots$Plan" "groups" "I", .methodLink RX2 88 yX2_rankIn, .instanceMethod yX2_rankIn, .selects RX2 yX2_rankIn yX2_rankIn, .initialized RX2, .code yX2_rankIn cX2_rankIn 5 (some .int), .fieldLink RX2 9 "BallPots$Draws" "step" "[I", .methodLink RX2 118 yX3_placeOf, .instanceMethod yX3_placeOf, .selects RX3 yX3_placeOf yX3_placeOf, .code yX3_placeOf cX3_placeOf 2 (some .int), .methodLink RX2 84 yX4_groupAt, .instanceMethod yX4_groupAt, .selects RX4 yX4_groupAt yX4_groupAt, .initialized RX4, .code yX4_groupAt cX4_groupAt 3 (some .int), .fieldLink RX4 9 "BallPots$Ranks" "groupOf" "[I"] ++ wsX20 ++ wsX30 ++ wsX40)
def wsX3_forget : List Cond := .code yX3_forget cX3_forget 1 none :: ([.fieldLink RX3 27 "BallPots$Plan" "groups" "I", .fieldLink RX3 31 "BallPots$Plan" "pots" "I", .fieldLink RX3 34 "BallPots$Plan" "teams" "I", .fieldLink RX3 37 "BallPots$Plan" "marks" "I", .fieldLink RX3 40 "BallPots$Plan" "bars" "I", .fieldLink RX3 43 "BallPots$Plan" "groupsNamed" "I"] ++ wsX30)
def wsX3_take : List Cond := .code yX3_take cX3_take 2 none :: ([.fieldLink RX3 27 "BallPots$Plan" "groups" "I", .fieldLink RX3 31 "BallPots$Plan" "pots" "I", .fieldLink RX3 34 "BallPots$Plan" "teams" "I", .fieldLink RX3 37 "BallPots$Plan" "marks" "I", .fieldLink RX3 40 "BallPots$Plan" "bars" "I", .fieldLink RX3 43 "BallPots$Plan" "groupsNamed" "I", .fieldLink RX3 9 "BallPots$Plan" "teamNames" "[I", .methodLink RX3 46 arraycopyName, .native arraycopyName, .static arraycopyName, .initialized "java/lang/System", .fieldLink RX3 15 "BallPots$Plan" "marksOf" "[I", .fieldLink RX3 18 "BallPots$Plan" "markNames" "[I", .fieldLink RX3 21 "BallPots$Plan" "barTeams" "[I", .fieldLink RX3 24 "BallPots$Plan" "barRooms" "[I"] ++ wsX30)
def wsX3_addTeam : List Cond := .code yX3_addTeam cX3_addTeam 2 none :: ([.fieldLink RX3 34 "BallPots$Plan" "teams" "I", .fieldLink RX3 9 "BallPots$Plan" "teamNames" "[I", .fieldLink RX3 15 "BallPots$Plan" "marksOf" "[I"] ++ wsX30)
def wsX3_addMark : List Cond := .code yX3_addMark cX3_addMark 2 none :: ([.fieldLink RX3 37 "BallPots$Plan" "marks" "I", .fieldLink RX3 18 "BallPots$Plan" "markNames" "[I"] ++ wsX30)
def wsX3_find : List Cond := .code yX3_find cX3_find 4 (some .int) :: ([])
def wsX3_teamNamed : List Cond := .code yX3_teamNamed cX3_teamNamed 2 (some .int) :: ([.fieldLink RX3 9 "BallPots$Plan" "teamNames" "[I", .fieldLink RX3 34 "BallPots$Plan" "teams" "I", .methodLink RX3 52 yX3_find, .static yX3_find, .initialized RX3, .code yX3_find cX3_find 4 (some .int)] ++ wsX30)
def wsX3_markNamed : List Cond := .code yX3_markNamed cX3_markNamed 2 (some .int) :: ([.fieldLink RX3 18 "BallPots$Plan" "markNames" "[I", .fieldLink RX3 37 "BallPots$Plan" "marks" "I", .methodLink RX3 52 yX3_find, .static yX3_find, .initialized RX3, .code yX3_find cX3_find 4 (some .int)] ++ wsX30)
def wsX3_teamsMarked : List Cond := .code yX3_teamsMarked cX3_teamsMarked 4 (some .int) :: ([.fieldLink RX3 34 "BallPots$Plan" "teams" "I", .fieldLink RX3 15 "BallPots$Plan" "marksOf" "[I"] ++ wsX30)
def wsX3_addBar : List Cond := .code yX3_addBar cX3_addBar 3 none :: ([.fieldLink RX3 40 "BallPots$Plan" "bars" "I", .fieldLink RX3 21 "BallPots$Plan" "barTeams" "[I", .fieldLink RX3 24 "BallPots$Plan" "barRooms" "[I"] ++ wsX30)
def wsX3_addAtMost : List Cond := .code yX3_addAtMost cX3_addAtMost 3 none :: ([.methodLink RX3 60 yX3_addBar, .instanceMethod yX3_addBar, .selects RX3 yX3_addBar yX3_addBar, .initialized RX3, .code yX3_addBar cX3_addBar 3 none, .fieldLink RX3 40 "BallPots$Plan" "bars" "I", .fieldLink RX3 21 "BallPots$Plan" "barTeams" "[I", .fieldLink RX3 24 "BallPots$Plan" "barRooms" "[I"] ++ wsX30)
def wsX3_addNever : List Cond := .code yX3_addNever cX3_addNever 3 none :: ([.fieldLink RX3 43 "BallPots$Plan" "groupsNamed" "I", .methodLink RX3 60 yX3_addBar, .instanceMethod yX3_addBar, .selects RX3 yX3_addBar yX3_addBar, .initialized RX3, .code yX3_addBar cX3_addBar 3 none, .fieldLink RX3 40 "BallPots$Plan" "bars" "I", .fieldLink RX3 21 "BallPots$Plan" "barTeams" "[I", .fieldLink RX3 24 "BallPots$Plan" "barRooms" "[I"] ++ wsX30)
def wsX3_addFixed : List Cond := .code yX3_addFixed cX3_addFixed 3 none :: ([.fieldLink RX3 43 "BallPots$Plan" "groupsNamed" "I", .methodLink RX3 60 yX3_addBar, .instanceMethod yX3_addBar, .selects RX3 yX3_addBar yX3_addBar, .initialized RX3, .code yX3_addBar cX3_addBar 3 none, .fieldLink RX3 40 "BallPots$Plan" "bars" "I", .fieldLink RX3 21 "BallPots$Plan" "barTeams" "[I", .fieldLink RX3 24 "BallPots$Plan" "barRooms" "[I"] ++ wsX30)
def wsX4_readRow : List Cond := .code yX4_readRow cX4_readRow 5 (some .boolean) :: ([])
def wsX4_addRow : List Cond := .code yX4_addRow cX4_addRow 3 none :: ([.fieldLink RX4 27 "BallPots$Ranks" "groups" "I", .fieldLink RX4 24 "BallPots$Ranks" "row" "[I", .fieldLink RX4 9 "BallPots$Ranks" "groupOf" "[I", .fieldLink RX4 31 "BallPots$Ranks" "many" "I", .fieldLink RX4 15 "BallPots$Ranks" "placeIn" "[I", .fieldLink RX4 18 "BallPots$Ranks" "having" "[I"] ++ wsX40)
def wsX4_rankWithSwapped : List Cond := .code yX4_rankWithSwapped cX4_rankWithSwapped 8 (some .int) :: ([.fieldLink RX4 47 "BallPots$Ranks" "everyRank" "I", .fieldLink RX4 27 "BallPots$Ranks" "groups" "I", .fieldLink RX4 18 "BallPots$Ranks" "having" "[I", .methodLink RX4 61 yX4_groupAt, .instanceMethod yX4_groupAt, .selects RX4 yX4_groupAt yX4_groupAt, .initialized RX4, .code yX4_groupAt cX4_groupAt 3 (some .int), .fieldLink RX4 9 "BallPots$Ranks" "groupOf" "[I", .methodLink RX4 65 yX4_only, .static yX4_only, .code yX4_only cX4_only 1 (some .int), .methodLink RX4 69 yJ6_bitCount_0f7a4, .static yJ6_bitCount_0f7a4, .initialized RJ6, .code yJ6_bitCount_0f7a4 cJ6_bitCount_0f7a4 1 (some .int), .constant RJ6 265 (1431655765), .constant RJ6 266 (858993459), .constant RJ6 267 (252645135)] ++ wsX40)
def wsX4_setSwaps_r1 : List Cond := [Cond.fieldLink RX4 27 "BallPots$Ranks" "groups" "I", Cond.fieldLink RX4 21 "BallPots$Ranks" "swapped" "[I", Cond.fieldLink RX4 58 "BallPots$Ranks" "swapsAPot" "I", Cond.methodLink RX4 54 yX4_rankWithSwapped, Cond.instanceMethod yX4_rankWithSwapped, Cond.selects RX4 yX4_rankWithSwapped yX4_rankWithSwapped, Cond.initialized RX4, Cond.code yX4_rankWithSwapped cX4_rankWithSwapped 8 (some .int), Cond.fieldLink RX4 47 "BallPots$Ranks" "everyRank" "I", Cond.fieldLink RX4 18 "BallPots$Ranks" "having" "[I", Cond.methodLink RX4 61 yX4_groupAt, Cond.instanceMethod yX4_groupAt, Cond.selects RX4 yX4_groupAt yX4_groupAt, Cond.code yX4_groupAt cX4_groupAt 3 (some .int), Cond.fieldLink RX4 9 "BallPots$Ranks" "groupOf" "[I", Cond.methodLink RX4 65 yX4_only, Cond.static yX4_only, Cond.code yX4_only cX4_only 1 (some .int), Cond.methodLink RX4 69 yJ6_bitCount_0f7a4, Cond.static yJ6_bitCount_0f7a4, Cond.initialized RJ6, Cond.code yJ6_bitCount_0f7a4 cJ6_bitCount_0f7a4 1 (some .int), Cond.constant RJ6 265 (1431655765), Cond.constant RJ6 266 (858993459)]
def wsX4_setSwaps_r2 : List Cond := [Cond.constant RJ6 267 (252645135)]
def wsX4_setSwaps : List Cond := .code yX4_setSwaps cX4_setSwaps 5 none :: ((wsX4_setSwaps_r1 ++ wsX4_setSwaps_r2) ++ wsX40)
def wsX4_set_r1 : List Cond := [Cond.fieldLink RX4 27 "BallPots$Ranks" "groups" "I", Cond.fieldLink RX4 31 "BallPots$Ranks" "many" "I", Cond.fieldLink RX4 18 "BallPots$Ranks" "having" "[I", Cond.fieldLink RX4 24 "BallPots$Ranks" "row" "[I", Cond.fieldLink RX4 47 "BallPots$Ranks" "everyRank" "I", Cond.methodLink RX4 34 yJ7_fill_53178, Cond.static yJ7_fill_53178, Cond.initialized RJ7, Cond.code yJ7_fill_53178 cJ7_fill_53178 4 none, Cond.methodLink RX4 40 yX4_readRow, Cond.static yX4_readRow, Cond.initialized RX4, Cond.code yX4_readRow cX4_readRow 5 (some .boolean), Cond.methodLink RX4 44 yX4_addRow, Cond.instanceMethod yX4_addRow, Cond.selects RX4 yX4_addRow yX4_addRow, Cond.code yX4_addRow cX4_addRow 3 none, Cond.fieldLink RX4 9 "BallPots$Ranks" "groupOf" "[I", Cond.fieldLink RX4 15 "BallPots$Ranks" "placeIn" "[I", Cond.methodLink RX4 50 yX4_setSwaps, Cond.instanceMethod yX4_setSwaps, Cond.selects RX4 yX4_setSwaps yX4_setSwaps, Cond.code yX4_setSwaps cX4_setSwaps 5 none, Cond.fieldLink RX4 21 "BallPots$Ranks" "swapped" "[I"]
def wsX4_set_r2 : List Cond := [Cond.fieldLink RX4 58 "BallPots$Ranks" "swapsAPot" "I", Cond.methodLink RX4 54 yX4_rankWithSwapped, Cond.instanceMethod yX4_rankWithSwapped, Cond.selects RX4 yX4_rankWithSwapped yX4_rankWithSwapped, Cond.code yX4_rankWithSwapped cX4_rankWithSwapped 8 (some .int), Cond.methodLink RX4 61 yX4_groupAt, Cond.instanceMethod yX4_groupAt, Cond.selects RX4 yX4_groupAt yX4_groupAt, Cond.code yX4_groupAt cX4_groupAt 3 (some .int), Cond.methodLink RX4 65 yX4_only, Cond.static yX4_only, Cond.code yX4_only cX4_only 1 (some .int), Cond.methodLink RX4 69 yJ6_bitCount_0f7a4, Cond.static yJ6_bitCount_0f7a4, Cond.initialized RJ6, Cond.code yJ6_bitCount_0f7a4 cJ6_bitCount_0f7a4 1 (some .int), Cond.constant RJ6 265 (1431655765), Cond.constant RJ6 266 (858993459), Cond.constant RJ6 267 (252645135)]
def wsX4_set : List Cond := .code yX4_set cX4_set 3 none :: ((wsX4_set_r1 ++ wsX4_set_r2) ++ wsX40)
def wsX5_isBlank : List Cond := .code yX5_isBlank cX5_isBlank 1 (some .boolean) :: ([])
def wsX5_isLetter : List Cond := .code yX5_isLetter cX5_isLetter 1 (some .boolean) :: ([])
def wsX5_stepWord : List Cond := .code yX5_stepWord cX5_stepWord 2 none :: ([.fieldLink RX5 73 "BallPots$Reader" "value" "I", .fieldLink RX5 35 "BallPots$Reader" "at" "I", .fieldLink RX5 32 "BallPots$Reader" "length" "I", .fieldLink RX5 22 "BallPots$Reader" "signs" "[I", .fieldLink RX5 47 "BallPots$Reader" "kind" "I", .methodLink RX5 61 yX5_isLetter, .static yX5_isLetter, .initialized RX5, .code yX5_isLetter cX5_isLetter 1 (some .boolean)] ++ wsX50)
def wsX5_isDigit : List Cond := .code yX5_isDigit cX5_isDigit 1 (some .boolean) :: ([])
def wsX5_stepNumber : List Cond := .code yX5_stepNumber cX5_stepNumber 1 none :: ([.fieldLink RX5 73 "BallPots$Reader" "value" "I", .fieldLink RX5 35 "BallPots$Reader" "at" "I", .fieldLink RX5 32 "BallPots$Reader" "length" "I", .fieldLink RX5 22 "BallPots$Reader" "signs" "[I", .methodLink RX5 26 Lib.Math.min.name, .static Lib.Math.min.name, .initialized "java/lang/Math", .code Lib.Math.min.name Lib.Math.min.code 2 (some .int), .fieldLink RX5 47 "BallPots$Reader" "kind" "I", .methodLink RX5 67 yX5_isDigit, .static yX5_isDigit, .initialized RX5, .code yX5_isDigit cX5_isDigit 1 (some .boolean)] ++ wsX50)
def wsX5_step_r1 : List Cond := [Cond.fieldLink RX5 35 "BallPots$Reader" "at" "I", Cond.fieldLink RX5 32 "BallPots$Reader" "length" "I", Cond.fieldLink RX5 22 "BallPots$Reader" "signs" "[I", Cond.fieldLink RX5 54 "BallPots$Reader" "start" "I", Cond.fieldLink RX5 47 "BallPots$Reader" "kind" "I", Cond.methodLink RX5 57 yX5_isBlank, Cond.static yX5_isBlank, Cond.initialized RX5, Cond.code yX5_isBlank cX5_isBlank 1 (some .boolean), Cond.methodLink RX5 61 yX5_isLetter, Cond.static yX5_isLetter, Cond.code yX5_isLetter cX5_isLetter 1 (some .boolean), Cond.methodLink RX5 64 yX5_stepWord, Cond.instanceMethod yX5_stepWord, Cond.selects RX5 yX5_stepWord yX5_stepWord, Cond.code yX5_stepWord cX5_stepWord 2 none, Cond.fieldLink RX5 73 "BallPots$Reader" "value" "I", Cond.methodLink RX5 67 yX5_isDigit, Cond.static yX5_isDigit, Cond.code yX5_isDigit cX5_isDigit 1 (some .boolean), Cond.methodLink RX5 70 yX5_stepNumber, Cond.instanceMethod yX5_stepNumber, Cond.selects RX5 yX5_stepNumber yX5_stepNumber, Cond.code yX5_stepNumber cX5_stepNumber 1 none]
def wsX5_step_r2 : List Cond := [Cond.methodLink RX5 26 Lib.Math.min.name, Cond.static Lib.Math.min.name, Cond.initialized "java/lang/Math", Cond.code Lib.Math.min.name Lib.Math.min.code 2 (some .int)]
def wsX5_step : List Cond := .code yX5_step cX5_step 1 none :: ((wsX5_step_r1 ++ wsX5_step_r2) ++ wsX50)
def wsX5_fail : List Cond := .code yX5_fail cX5_fail 2 (some .boolean) :: ([.fieldLink RX5 38 "BallPots$Reader" "fault" "I", .fieldLink RX5 54 "BallPots$Reader" "start" "I", .fieldLink RX5 18 "BallPots$Reader" "place" "I"] ++ wsX50)
def wsX5_isNumber : List Cond := .code yX5_isNumber cX5_isNumber 3 (some .boolean) :: ([.fieldLink RX5 47 "BallPots$Reader" "kind" "I", .fieldLink RX5 73 "BallPots$Reader" "value" "I", .methodLink RX5 84 yX5_fail, .instanceMethod yX5_fail, .selects RX5 yX5_fail yX5_fail, .initialized RX5, .code yX5_fail cX5_fail 2 (some .boolean), .fieldLink RX5 38 "BallPots$Reader" "fault" "I", .fieldLink RX5 54 "BallPots$Reader" "start" "I", .fieldLink RX5 18 "BallPots$Reader" "place" "I"] ++ wsX50)
def wsX5_readGroups_r1 : List Cond := [Cond.fieldLink RX5 12 "BallPots$Reader" "plan" "LBallPots$Plan;", Cond.fieldLink RX5 73 "BallPots$Reader" "value" "I", Cond.methodLink RX5 44 yX5_step, Cond.instanceMethod yX5_step, Cond.selects RX5 yX5_step yX5_step, Cond.initialized RX5, Cond.code yX5_step cX5_step 1 none, Cond.fieldLink RX5 35 "BallPots$Reader" "at" "I", Cond.fieldLink RX5 32 "BallPots$Reader" "length" "I", Cond.fieldLink RX5 22 "BallPots$Reader" "signs" "[I", Cond.fieldLink RX5 54 "BallPots$Reader" "start" "I", Cond.fieldLink RX5 47 "BallPots$Reader" "kind" "I", Cond.methodLink RX5 57 yX5_isBlank, Cond.static yX5_isBlank, Cond.code yX5_isBlank cX5_isBlank 1 (some .boolean), Cond.methodLink RX5 61 yX5_isLetter, Cond.static yX5_isLetter, Cond.code yX5_isLetter cX5_isLetter 1 (some .boolean), Cond.methodLink RX5 64 yX5_stepWord, Cond.instanceMethod yX5_stepWord, Cond.selects RX5 yX5_stepWord yX5_stepWord, Cond.code yX5_stepWord cX5_stepWord 2 none, Cond.methodLink RX5 67 yX5_isDigit, Cond.static yX5_isDigit]
def wsX5_readGroups_r2 : List Cond := [Cond.code yX5_isDigit cX5_isDigit 1 (some .boolean), Cond.methodLink RX5 70 yX5_stepNumber, Cond.instanceMethod yX5_stepNumber, Cond.selects RX5 yX5_stepNumber yX5_stepNumber, Cond.code yX5_stepNumber cX5_stepNumber 1 none, Cond.methodLink RX5 26 Lib.Math.min.name, Cond.static Lib.Math.min.name, Cond.initialized "java/lang/Math", Cond.code Lib.Math.min.name Lib.Math.min.code 2 (some .int), Cond.methodLink RX5 108 yX5_isNumber, Cond.instanceMethod yX5_isNumber, Cond.selects RX5 yX5_isNumber yX5_isNumber, Cond.code yX5_isNumber cX5_isNumber 3 (some .boolean), Cond.methodLink RX5 84 yX5_fail, Cond.instanceMethod yX5_fail, Cond.selects RX5 yX5_fail yX5_fail, Cond.code yX5_fail cX5_fail 2 (some .boolean), Cond.fieldLink RX5 38 "BallPots$Reader" "fault" "I", Cond.fieldLink RX5 18 "BallPots$Reader" "place" "I"]
def wsX5_readGroups : List Cond := .code yX5_readGroups cX5_readGroups 1 (some .boolean) :: ((wsX5_readGroups_r1 ++ wsX5_readGroups_r2) ++ wsX50 ++ wsX30)
def wsX5_isOfLanguage : List Cond := .code yX5_isOfLanguage cX5_isOfLanguage 1 (some .boolean) :: ([])
def wsX5_isName : List Cond := .code yX5_isName cX5_isName 1 (some .boolean) :: ([.fieldLink RX5 47 "BallPots$Reader" "kind" "I", .fieldLink RX5 73 "BallPots$Reader" "value" "I", .methodLink RX5 164 yX5_isOfLanguage, .static yX5_isOfLanguage, .initialized RX5, .code yX5_isOfLanguage cX5_isOfLanguage 1 (some .boolean), .methodLink RX5 84 yX5_fail, .instanceMethod yX5_fail, .selects RX5 yX5_fail yX5_fail, .code yX5_fail cX5_fail 2 (some .boolean), .fieldLink RX5 38 "BallPots$Reader" "fault" "I", .fieldLink RX5 54 "BallPots$Reader" "start" "I", .fieldLink RX5 18 "BallPots$Reader" "place" "I"] ++ wsX50)
def wsX5_readPot_r1 : List Cond := [Cond.fieldLink RX5 12 "BallPots$Reader" "plan" "LBallPots$Plan;", Cond.fieldLink RX5 32 "BallPots$Reader" "length" "I", Cond.fieldLink RX5 47 "BallPots$Reader" "kind" "I", Cond.fieldLink RX5 73 "BallPots$Reader" "value" "I", Cond.methodLink RX5 84 yX5_fail, Cond.instanceMethod yX5_fail, Cond.selects RX5 yX5_fail yX5_fail, Cond.initialized RX5, Cond.code yX5_fail cX5_fail 2 (some .boolean), Cond.fieldLink RX5 38 "BallPots$Reader" "fault" "I", Cond.fieldLink RX5 54 "BallPots$Reader" "start" "I", Cond.fieldLink RX5 18 "BallPots$Reader" "place" "I", Cond.methodLink RX5 44 yX5_step, Cond.instanceMethod yX5_step, Cond.selects RX5 yX5_step yX5_step, Cond.code yX5_step cX5_step 1 none, Cond.fieldLink RX5 35 "BallPots$Reader" "at" "I", Cond.fieldLink RX5 22 "BallPots$Reader" "signs" "[I", Cond.methodLink RX5 57 yX5_isBlank, Cond.static yX5_isBlank, Cond.code yX5_isBlank cX5_isBlank 1 (some .boolean), Cond.methodLink RX5 61 yX5_isLetter, Cond.static yX5_isLetter, Cond.code yX5_isLetter cX5_isLetter 1 (some .boolean)]
def wsX5_readPot_r2 : List Cond := [Cond.methodLink RX5 64 yX5_stepWord, Cond.instanceMethod yX5_stepWord, Cond.selects RX5 yX5_stepWord yX5_stepWord, Cond.code yX5_stepWord cX5_stepWord 2 none, Cond.methodLink RX5 67 yX5_isDigit, Cond.static yX5_isDigit, Cond.code yX5_isDigit cX5_isDigit 1 (some .boolean), Cond.methodLink RX5 70 yX5_stepNumber, Cond.instanceMethod yX5_stepNumber, Cond.selects RX5 yX5_stepNumber yX5_stepNumber, Cond.code yX5_stepNumber cX5_stepNumber 1 none, Cond.methodLink RX5 26 Lib.Math.min.name, Cond.static Lib.Math.min.name, Cond.initialized "java/lang/Math", Cond.code Lib.Math.min.name Lib.Math.min.code 2 (some .int), Cond.methodLink RX5 121 yX5_isName, Cond.instanceMethod yX5_isName, Cond.selects RX5 yX5_isName yX5_isName, Cond.code yX5_isName cX5_isName 1 (some .boolean), Cond.methodLink RX5 164 yX5_isOfLanguage, Cond.static yX5_isOfLanguage, Cond.code yX5_isOfLanguage cX5_isOfLanguage 1 (some .boolean), Cond.methodLink RX5 124 yX3_teamNamed, Cond.instanceMethod yX3_teamNamed]
def wsX5_readPot_r3 : List Cond := [Cond.selects RX3 yX3_teamNamed yX3_teamNamed, Cond.initialized RX3, Cond.code yX3_teamNamed cX3_teamNamed 2 (some .int), Cond.fieldLink RX3 9 "BallPots$Plan" "teamNames" "[I", Cond.fieldLink RX3 34 "BallPots$Plan" "teams" "I", Cond.methodLink RX3 52 yX3_find, Cond.static yX3_find, Cond.code yX3_find cX3_find 4 (some .int), Cond.methodLink RX5 128 yX3_addTeam, Cond.instanceMethod yX3_addTeam, Cond.selects RX3 yX3_addTeam yX3_addTeam, Cond.code yX3_addTeam cX3_addTeam 2 none, Cond.fieldLink RX3 15 "BallPots$Plan" "marksOf" "[I"]
def wsX5_readPot : List Cond := .code yX5_readPot cX5_readPot 3 (some .boolean) :: ((wsX5_readPot_r1 ++ (wsX5_readPot_r2 ++ wsX5_readPot_r3)) ++ wsX50 ++ wsX30)
def wsX5_readTeam_r1 : List Cond := [Cond.fieldLink RX5 12 "BallPots$Reader" "plan" "LBallPots$Plan;", Cond.fieldLink RX5 73 "BallPots$Reader" "value" "I", Cond.methodLink RX5 121 yX5_isName, Cond.instanceMethod yX5_isName, Cond.selects RX5 yX5_isName yX5_isName, Cond.initialized RX5, Cond.code yX5_isName cX5_isName 1 (some .boolean), Cond.fieldLink RX5 47 "BallPots$Reader" "kind" "I", Cond.methodLink RX5 164 yX5_isOfLanguage, Cond.static yX5_isOfLanguage, Cond.code yX5_isOfLanguage cX5_isOfLanguage 1 (some .boolean), Cond.methodLink RX5 84 yX5_fail, Cond.instanceMethod yX5_fail, Cond.selects RX5 yX5_fail yX5_fail, Cond.code yX5_fail cX5_fail 2 (some .boolean), Cond.fieldLink RX5 38 "BallPots$Reader" "fault" "I", Cond.fieldLink RX5 54 "BallPots$Reader" "start" "I", Cond.fieldLink RX5 18 "BallPots$Reader" "place" "I", Cond.methodLink RX5 124 yX3_teamNamed, Cond.instanceMethod yX3_teamNamed, Cond.selects RX3 yX3_teamNamed yX3_teamNamed, Cond.initialized RX3, Cond.code yX3_teamNamed cX3_teamNamed 2 (some .int), Cond.fieldLink RX3 9 "BallPots$Plan" "teamNames" "[I"]
def wsX5_readTeam_r2 : List Cond := [Cond.fieldLink RX3 34 "BallPots$Plan" "teams" "I", Cond.methodLink RX3 52 yX3_find, Cond.static yX3_find, Cond.code yX3_find cX3_find 4 (some .int)]
def wsX5_readTeam : List Cond := .code yX5_readTeam cX5_readTeam 2 (some .int) :: ((wsX5_readTeam_r1 ++ wsX5_readTeam_r2) ++ wsX50 ++ wsX30)
def wsX5_readMark_r1 : List Cond := [Cond.fieldLink RX5 12 "BallPots$Reader" "plan" "LBallPots$Plan;", Cond.fieldLink RX5 73 "BallPots$Reader" "value" "I", Cond.fieldLink RX5 32 "BallPots$Reader" "length" "I", Cond.fieldLink RX5 47 "BallPots$Reader" "kind" "I", Cond.methodLink RX5 84 yX5_fail, Cond.instanceMethod yX5_fail, Cond.selects RX5 yX5_fail yX5_fail, Cond.initialized RX5, Cond.code yX5_fail cX5_fail 2 (some .boolean), Cond.fieldLink RX5 38 "BallPots$Reader" "fault" "I", Cond.fieldLink RX5 54 "BallPots$Reader" "start" "I", Cond.fieldLink RX5 18 "BallPots$Reader" "place" "I", Cond.methodLink RX5 44 yX5_step, Cond.instanceMethod yX5_step, Cond.selects RX5 yX5_step yX5_step, Cond.code yX5_step cX5_step 1 none, Cond.fieldLink RX5 35 "BallPots$Reader" "at" "I", Cond.fieldLink RX5 22 "BallPots$Reader" "signs" "[I", Cond.methodLink RX5 57 yX5_isBlank, Cond.static yX5_isBlank, Cond.code yX5_isBlank cX5_isBlank 1 (some .boolean), Cond.methodLink RX5 61 yX5_isLetter, Cond.static yX5_isLetter, Cond.code yX5_isLetter cX5_isLetter 1 (some .boolean)]
def wsX5_readMark_r2 : List Cond := [Cond.methodLink RX5 64 yX5_stepWord, Cond.instanceMethod yX5_stepWord, Cond.selects RX5 yX5_stepWord yX5_stepWord, Cond.code yX5_stepWord cX5_stepWord 2 none, Cond.methodLink RX5 67 yX5_isDigit, Cond.static yX5_isDigit, Cond.code yX5_isDigit cX5_isDigit 1 (some .boolean), Cond.methodLink RX5 70 yX5_stepNumber, Cond.instanceMethod yX5_stepNumber, Cond.selects RX5 yX5_stepNumber yX5_stepNumber, Cond.code yX5_stepNumber cX5_stepNumber 1 none, Cond.methodLink RX5 26 Lib.Math.min.name, Cond.static Lib.Math.min.name, Cond.initialized "java/lang/Math", Cond.code Lib.Math.min.name Lib.Math.min.code 2 (some .int), Cond.methodLink RX5 121 yX5_isName, Cond.instanceMethod yX5_isName, Cond.selects RX5 yX5_isName yX5_isName, Cond.code yX5_isName cX5_isName 1 (some .boolean), Cond.methodLink RX5 164 yX5_isOfLanguage, Cond.static yX5_isOfLanguage, Cond.code yX5_isOfLanguage cX5_isOfLanguage 1 (some .boolean), Cond.methodLink RX5 135 yX3_markNamed, Cond.instanceMethod yX3_markNamed]
def wsX5_readMark_r3 : List Cond := [Cond.selects RX3 yX3_markNamed yX3_markNamed, Cond.initialized RX3, Cond.code yX3_markNamed cX3_markNamed 2 (some .int), Cond.fieldLink RX3 18 "BallPots$Plan" "markNames" "[I", Cond.fieldLink RX3 37 "BallPots$Plan" "marks" "I", Cond.methodLink RX3 52 yX3_find, Cond.static yX3_find, Cond.code yX3_find cX3_find 4 (some .int), Cond.methodLink RX5 138 yX3_addMark, Cond.instanceMethod yX3_addMark, Cond.selects RX3 yX3_addMark yX3_addMark, Cond.code yX3_addMark cX3_addMark 2 none, Cond.methodLink RX5 141 yX5_readTeam, Cond.instanceMethod yX5_readTeam, Cond.selects RX5 yX5_readTeam yX5_readTeam, Cond.code yX5_readTeam cX5_readTeam 2 (some .int), Cond.methodLink RX5 124 yX3_teamNamed, Cond.instanceMethod yX3_teamNamed, Cond.selects RX3 yX3_teamNamed yX3_teamNamed, Cond.code yX3_teamNamed cX3_teamNamed 2 (some .int), Cond.fieldLink RX3 9 "BallPots$Plan" "teamNames" "[I", Cond.fieldLink RX3 34 "BallPots$Plan" "teams" "I"]
def wsX5_readMark : List Cond := .code yX5_readMark cX5_readMark 5 (some .boolean) :: ((wsX5_readMark_r1 ++ (wsX5_readMark_r2 ++ wsX5_readMark_r3)) ++ wsX50 ++ wsX30)
def wsX5_isRoomForBar : List Cond := .code yX5_isRoomForBar cX5_isRoomForBar 1 (some .boolean) :: ([.fieldLink RX5 12 "BallPots$Reader" "plan" "LBallPots$Plan;", .methodLink RX5 84 yX5_fail, .instanceMethod yX5_fail, .selects RX5 yX5_fail yX5_fail, .initialized RX5, .code yX5_fail cX5_fail 2 (some .boolean), .fieldLink RX5 38 "BallPots$Reader" "fault" "I", .fieldLink RX5 54 "BallPots$Reader" "start" "I", .fieldLink RX5 18 "BallPots$Reader" "place" "I"] ++ wsX50 ++ wsX30)
def wsX5_readAtMost_r1 : List Cond := [Cond.fieldLink RX5 73 "BallPots$Reader" "value" "I", Cond.fieldLink RX5 12 "BallPots$Reader" "plan" "LBallPots$Plan;", Cond.methodLink RX5 44 yX5_step, Cond.instanceMethod yX5_step, Cond.selects RX5 yX5_step yX5_step, Cond.initialized RX5, Cond.code yX5_step cX5_step 1 none, Cond.fieldLink RX5 35 "BallPots$Reader" "at" "I", Cond.fieldLink RX5 32 "BallPots$Reader" "length" "I", Cond.fieldLink RX5 22 "BallPots$Reader" "signs" "[I", Cond.fieldLink RX5 54 "BallPots$Reader" "start" "I", Cond.fieldLink RX5 47 "BallPots$Reader" "kind" "I", Cond.methodLink RX5 57 yX5_isBlank, Cond.static yX5_isBlank, Cond.code yX5_isBlank cX5_isBlank 1 (some .boolean), Cond.methodLink RX5 61 yX5_isLetter, Cond.static yX5_isLetter, Cond.code yX5_isLetter cX5_isLetter 1 (some .boolean), Cond.methodLink RX5 64 yX5_stepWord, Cond.instanceMethod yX5_stepWord, Cond.selects RX5 yX5_stepWord yX5_stepWord, Cond.code yX5_stepWord cX5_stepWord 2 none, Cond.methodLink RX5 67 yX5_isDigit, Cond.static yX5_isDigit]
def wsX5_readAtMost_r2 : List Cond := [Cond.code yX5_isDigit cX5_isDigit 1 (some .boolean), Cond.methodLink RX5 70 yX5_stepNumber, Cond.instanceMethod yX5_stepNumber, Cond.selects RX5 yX5_stepNumber yX5_stepNumber, Cond.code yX5_stepNumber cX5_stepNumber 1 none, Cond.methodLink RX5 26 Lib.Math.min.name, Cond.static Lib.Math.min.name, Cond.initialized "java/lang/Math", Cond.code Lib.Math.min.name Lib.Math.min.code 2 (some .int), Cond.methodLink RX5 108 yX5_isNumber, Cond.instanceMethod yX5_isNumber, Cond.selects RX5 yX5_isNumber yX5_isNumber, Cond.code yX5_isNumber cX5_isNumber 3 (some .boolean), Cond.methodLink RX5 84 yX5_fail, Cond.instanceMethod yX5_fail, Cond.selects RX5 yX5_fail yX5_fail, Cond.code yX5_fail cX5_fail 2 (some .boolean), Cond.fieldLink RX5 38 "BallPots$Reader" "fault" "I", Cond.fieldLink RX5 18 "BallPots$Reader" "place" "I", Cond.methodLink RX5 121 yX5_isName, Cond.instanceMethod yX5_isName, Cond.selects RX5 yX5_isName yX5_isName, Cond.code yX5_isName cX5_isName 1 (some .boolean), Cond.methodLink RX5 164 yX5_isOfLanguage]
def wsX5_readAtMost_r3 : List Cond := [Cond.static yX5_isOfLanguage, Cond.code yX5_isOfLanguage cX5_isOfLanguage 1 (some .boolean), Cond.methodLink RX5 135 yX3_markNamed, Cond.instanceMethod yX3_markNamed, Cond.selects RX3 yX3_markNamed yX3_markNamed, Cond.initialized RX3, Cond.code yX3_markNamed cX3_markNamed 2 (some .int), Cond.fieldLink RX3 18 "BallPots$Plan" "markNames" "[I", Cond.fieldLink RX3 37 "BallPots$Plan" "marks" "I", Cond.methodLink RX3 52 yX3_find, Cond.static yX3_find, Cond.code yX3_find cX3_find 4 (some .int), Cond.methodLink RX5 151 yX3_teamsMarked, Cond.instanceMethod yX3_teamsMarked, Cond.selects RX3 yX3_teamsMarked yX3_teamsMarked, Cond.code yX3_teamsMarked cX3_teamsMarked 4 (some .int), Cond.fieldLink RX3 34 "BallPots$Plan" "teams" "I", Cond.fieldLink RX3 15 "BallPots$Plan" "marksOf" "[I", Cond.methodLink RX5 154 yX3_addAtMost, Cond.instanceMethod yX3_addAtMost, Cond.selects RX3 yX3_addAtMost yX3_addAtMost, Cond.code yX3_addAtMost cX3_addAtMost 3 none, Cond.methodLink RX3 60 yX3_addBar, Cond.instanceMethod yX3_addBar]
def wsX5_readAtMost_r4 : List Cond := [Cond.selects RX3 yX3_addBar yX3_addBar, Cond.code yX3_addBar cX3_addBar 3 none, Cond.fieldLink RX3 40 "BallPots$Plan" "bars" "I", Cond.fieldLink RX3 21 "BallPots$Plan" "barTeams" "[I", Cond.fieldLink RX3 24 "BallPots$Plan" "barRooms" "[I"]
def wsX5_readAtMost : List Cond := .code yX5_readAtMost cX5_readAtMost 3 (some .boolean) :: ((wsX5_readAtMost_r1 ++ (wsX5_readAtMost_r2 ++ (wsX5_readAtMost_r3 ++ wsX5_readAtMost_r4))) ++ wsX50 ++ wsX30)
def wsX5_readApart_r1 : List Cond := [Cond.fieldLink RX5 12 "BallPots$Reader" "plan" "LBallPots$Plan;", Cond.methodLink RX5 44 yX5_step, Cond.instanceMethod yX5_step, Cond.selects RX5 yX5_step yX5_step, Cond.initialized RX5, Cond.code yX5_step cX5_step 1 none, Cond.fieldLink RX5 35 "BallPots$Reader" "at" "I", Cond.fieldLink RX5 32 "BallPots$Reader" "length" "I", Cond.fieldLink RX5 22 "BallPots$Reader" "signs" "[I", Cond.fieldLink RX5 54 "BallPots$Reader" "start" "I", Cond.fieldLink RX5 47 "BallPots$Reader" "kind" "I", Cond.methodLink RX5 57 yX5_isBlank, Cond.static yX5_isBlank, Cond.code yX5_isBlank cX5_isBlank 1 (some .boolean), Cond.methodLink RX5 61 yX5_isLetter, Cond.static yX5_isLetter, Cond.code yX5_isLetter cX5_isLetter 1 (some .boolean), Cond.methodLink RX5 64 yX5_stepWord, Cond.instanceMethod yX5_stepWord, Cond.selects RX5 yX5_stepWord yX5_stepWord, Cond.code yX5_stepWord cX5_stepWord 2 none, Cond.fieldLink RX5 73 "BallPots$Reader" "value" "I", Cond.methodLink RX5 67 yX5_isDigit, Cond.static yX5_isDigit]
def wsX5_readApart_r2 : List Cond := [Cond.code yX5_isDigit cX5_isDigit 1 (some .boolean), Cond.methodLink RX5 70 yX5_stepNumber, Cond.instanceMethod yX5_stepNumber, Cond.selects RX5 yX5_stepNumber yX5_stepNumber, Cond.code yX5_stepNumber cX5_stepNumber 1 none, Cond.methodLink RX5 26 Lib.Math.min.name, Cond.static Lib.Math.min.name, Cond.initialized "java/lang/Math", Cond.code Lib.Math.min.name Lib.Math.min.code 2 (some .int), Cond.methodLink RX5 141 yX5_readTeam, Cond.instanceMethod yX5_readTeam, Cond.selects RX5 yX5_readTeam yX5_readTeam, Cond.code yX5_readTeam cX5_readTeam 2 (some .int), Cond.methodLink RX5 121 yX5_isName, Cond.instanceMethod yX5_isName, Cond.selects RX5 yX5_isName yX5_isName, Cond.code yX5_isName cX5_isName 1 (some .boolean), Cond.methodLink RX5 164 yX5_isOfLanguage, Cond.static yX5_isOfLanguage, Cond.code yX5_isOfLanguage cX5_isOfLanguage 1 (some .boolean), Cond.methodLink RX5 84 yX5_fail, Cond.instanceMethod yX5_fail, Cond.selects RX5 yX5_fail yX5_fail, Cond.code yX5_fail cX5_fail 2 (some .boolean)]
def wsX5_readApart_r3 : List Cond := [Cond.fieldLink RX5 38 "BallPots$Reader" "fault" "I", Cond.fieldLink RX5 18 "BallPots$Reader" "place" "I", Cond.methodLink RX5 124 yX3_teamNamed, Cond.instanceMethod yX3_teamNamed, Cond.selects RX3 yX3_teamNamed yX3_teamNamed, Cond.initialized RX3, Cond.code yX3_teamNamed cX3_teamNamed 2 (some .int), Cond.fieldLink RX3 9 "BallPots$Plan" "teamNames" "[I", Cond.fieldLink RX3 34 "BallPots$Plan" "teams" "I", Cond.methodLink RX3 52 yX3_find, Cond.static yX3_find, Cond.code yX3_find cX3_find 4 (some .int), Cond.methodLink RX5 154 yX3_addAtMost, Cond.instanceMethod yX3_addAtMost, Cond.selects RX3 yX3_addAtMost yX3_addAtMost, Cond.code yX3_addAtMost cX3_addAtMost 3 none, Cond.methodLink RX3 60 yX3_addBar, Cond.instanceMethod yX3_addBar, Cond.selects RX3 yX3_addBar yX3_addBar, Cond.code yX3_addBar cX3_addBar 3 none, Cond.fieldLink RX3 40 "BallPots$Plan" "bars" "I", Cond.fieldLink RX3 21 "BallPots$Plan" "barTeams" "[I", Cond.fieldLink RX3 24 "BallPots$Plan" "barRooms" "[I"]
def wsX5_readApart : List Cond := .code yX5_readApart cX5_readApart 3 (some .boolean) :: ((wsX5_readApart_r1 ++ (wsX5_readApart_r2 ++ wsX5_readApart_r3)) ++ wsX50 ++ wsX30)
def wsX5_readHeld_r1 : List Cond := [Cond.fieldLink RX5 12 "BallPots$Reader" "plan" "LBallPots$Plan;", Cond.fieldLink RX5 73 "BallPots$Reader" "value" "I", Cond.methodLink RX5 44 yX5_step, Cond.instanceMethod yX5_step, Cond.selects RX5 yX5_step yX5_step, Cond.initialized RX5, Cond.code yX5_step cX5_step 1 none, Cond.fieldLink RX5 35 "BallPots$Reader" "at" "I", Cond.fieldLink RX5 32 "BallPots$Reader" "length" "I", Cond.fieldLink RX5 22 "BallPots$Reader" "signs" "[I", Cond.fieldLink RX5 54 "BallPots$Reader" "start" "I", Cond.fieldLink RX5 47 "BallPots$Reader" "kind" "I", Cond.methodLink RX5 57 yX5_isBlank, Cond.static yX5_isBlank, Cond.code yX5_isBlank cX5_isBlank 1 (some .boolean), Cond.methodLink RX5 61 yX5_isLetter, Cond.static yX5_isLetter, Cond.code yX5_isLetter cX5_isLetter 1 (some .boolean), Cond.methodLink RX5 64 yX5_stepWord, Cond.instanceMethod yX5_stepWord, Cond.selects RX5 yX5_stepWord yX5_stepWord, Cond.code yX5_stepWord cX5_stepWord 2 none, Cond.methodLink RX5 67 yX5_isDigit, Cond.static yX5_isDigit]
def wsX5_readHeld_r2 : List Cond := [Cond.code yX5_isDigit cX5_isDigit 1 (some .boolean), Cond.methodLink RX5 70 yX5_stepNumber, Cond.instanceMethod yX5_stepNumber, Cond.selects RX5 yX5_stepNumber yX5_stepNumber, Cond.code yX5_stepNumber cX5_stepNumber 1 none, Cond.methodLink RX5 26 Lib.Math.min.name, Cond.static Lib.Math.min.name, Cond.initialized "java/lang/Math", Cond.code Lib.Math.min.name Lib.Math.min.code 2 (some .int), Cond.methodLink RX5 141 yX5_readTeam, Cond.instanceMethod yX5_readTeam, Cond.selects RX5 yX5_readTeam yX5_readTeam, Cond.code yX5_readTeam cX5_readTeam 2 (some .int), Cond.methodLink RX5 121 yX5_isName, Cond.instanceMethod yX5_isName, Cond.selects RX5 yX5_isName yX5_isName, Cond.code yX5_isName cX5_isName 1 (some .boolean), Cond.methodLink RX5 164 yX5_isOfLanguage, Cond.static yX5_isOfLanguage, Cond.code yX5_isOfLanguage cX5_isOfLanguage 1 (some .boolean), Cond.methodLink RX5 84 yX5_fail, Cond.instanceMethod yX5_fail, Cond.selects RX5 yX5_fail yX5_fail, Cond.code yX5_fail cX5_fail 2 (some .boolean)]
def wsX5_readHeld_r3 : List Cond := [Cond.fieldLink RX5 38 "BallPots$Reader" "fault" "I", Cond.fieldLink RX5 18 "BallPots$Reader" "place" "I", Cond.methodLink RX5 124 yX3_teamNamed, Cond.instanceMethod yX3_teamNamed, Cond.selects RX3 yX3_teamNamed yX3_teamNamed, Cond.initialized RX3, Cond.code yX3_teamNamed cX3_teamNamed 2 (some .int), Cond.fieldLink RX3 9 "BallPots$Plan" "teamNames" "[I", Cond.fieldLink RX3 34 "BallPots$Plan" "teams" "I", Cond.methodLink RX3 52 yX3_find, Cond.static yX3_find, Cond.code yX3_find cX3_find 4 (some .int), Cond.methodLink RX5 108 yX5_isNumber, Cond.instanceMethod yX5_isNumber, Cond.selects RX5 yX5_isNumber yX5_isNumber, Cond.code yX5_isNumber cX5_isNumber 3 (some .boolean), Cond.methodLink RX5 158 yX3_addFixed, Cond.instanceMethod yX3_addFixed, Cond.selects RX3 yX3_addFixed yX3_addFixed, Cond.code yX3_addFixed cX3_addFixed 3 none, Cond.fieldLink RX3 43 "BallPots$Plan" "groupsNamed" "I", Cond.methodLink RX3 60 yX3_addBar, Cond.instanceMethod yX3_addBar, Cond.selects RX3 yX3_addBar yX3_addBar]
def wsX5_readHeld_r4 : List Cond := [Cond.code yX3_addBar cX3_addBar 3 none, Cond.fieldLink RX3 40 "BallPots$Plan" "bars" "I", Cond.fieldLink RX3 21 "BallPots$Plan" "barTeams" "[I", Cond.fieldLink RX3 24 "BallPots$Plan" "barRooms" "[I", Cond.methodLink RX5 161 yX3_addNever, Cond.instanceMethod yX3_addNever, Cond.selects RX3 yX3_addNever yX3_addNever, Cond.code yX3_addNever cX3_addNever 3 none]
def wsX5_readHeld : List Cond := .code yX5_readHeld cX5_readHeld 3 (some .boolean) :: ((wsX5_readHeld_r1 ++ (wsX5_readHeld_r2 ++ (wsX5_readHeld_r3 ++ wsX5_readHeld_r4))) ++ wsX50 ++ wsX30)
def wsX5_readUpToStop_r1 : List Cond := [Cond.fieldLink RX5 47 "BallPots$Reader" "kind" "I", Cond.fieldLink RX5 73 "BallPots$Reader" "value" "I", Cond.constant RX5 83 (254268947), Cond.methodLink RX5 84 yX5_fail, Cond.instanceMethod yX5_fail, Cond.selects RX5 yX5_fail yX5_fail, Cond.initialized RX5, Cond.code yX5_fail cX5_fail 2 (some .boolean), Cond.fieldLink RX5 38 "BallPots$Reader" "fault" "I", Cond.fieldLink RX5 54 "BallPots$Reader" "start" "I", Cond.fieldLink RX5 18 "BallPots$Reader" "place" "I", Cond.methodLink RX5 87 yX5_readGroups, Cond.instanceMethod yX5_readGroups, Cond.selects RX5 yX5_readGroups yX5_readGroups, Cond.code yX5_readGroups cX5_readGroups 1 (some .boolean), Cond.fieldLink RX5 12 "BallPots$Reader" "plan" "LBallPots$Plan;", Cond.methodLink RX5 44 yX5_step, Cond.instanceMethod yX5_step, Cond.selects RX5 yX5_step yX5_step, Cond.code yX5_step cX5_step 1 none, Cond.fieldLink RX5 35 "BallPots$Reader" "at" "I", Cond.fieldLink RX5 32 "BallPots$Reader" "length" "I", Cond.fieldLink RX5 22 "BallPots$Reader" "signs" "[I", Cond.methodLink RX5 57 yX5_isBlank]
def wsX5_readUpToStop_r2 : List Cond := [Cond.static yX5_isBlank, Cond.code yX5_isBlank cX5_isBlank 1 (some .boolean), Cond.methodLink RX5 61 yX5_isLetter, Cond.static yX5_isLetter, Cond.code yX5_isLetter cX5_isLetter 1 (some .boolean), Cond.methodLink RX5 64 yX5_stepWord, Cond.instanceMethod yX5_stepWord, Cond.selects RX5 yX5_stepWord yX5_stepWord, Cond.code yX5_stepWord cX5_stepWord 2 none, Cond.methodLink RX5 67 yX5_isDigit, Cond.static yX5_isDigit, Cond.code yX5_isDigit cX5_isDigit 1 (some .boolean), Cond.methodLink RX5 70 yX5_stepNumber, Cond.instanceMethod yX5_stepNumber, Cond.selects RX5 yX5_stepNumber yX5_stepNumber, Cond.code yX5_stepNumber cX5_stepNumber 1 none, Cond.methodLink RX5 26 Lib.Math.min.name, Cond.static Lib.Math.min.name, Cond.initialized "java/lang/Math", Cond.code Lib.Math.min.name Lib.Math.min.code 2 (some .int), Cond.methodLink RX5 108 yX5_isNumber, Cond.instanceMethod yX5_isNumber, Cond.selects RX5 yX5_isNumber yX5_isNumber, Cond.code yX5_isNumber cX5_isNumber 3 (some .boolean)]
def wsX5_readUpToStop_r3 : List Cond := [Cond.methodLink RX5 90 yX5_readPot, Cond.instanceMethod yX5_readPot, Cond.selects RX5 yX5_readPot yX5_readPot, Cond.code yX5_readPot cX5_readPot 3 (some .boolean), Cond.methodLink RX5 121 yX5_isName, Cond.instanceMethod yX5_isName, Cond.selects RX5 yX5_isName yX5_isName, Cond.code yX5_isName cX5_isName 1 (some .boolean), Cond.methodLink RX5 164 yX5_isOfLanguage, Cond.static yX5_isOfLanguage, Cond.code yX5_isOfLanguage cX5_isOfLanguage 1 (some .boolean), Cond.methodLink RX5 124 yX3_teamNamed, Cond.instanceMethod yX3_teamNamed, Cond.selects RX3 yX3_teamNamed yX3_teamNamed, Cond.initialized RX3, Cond.code yX3_teamNamed cX3_teamNamed 2 (some .int), Cond.fieldLink RX3 9 "BallPots$Plan" "teamNames" "[I", Cond.fieldLink RX3 34 "BallPots$Plan" "teams" "I", Cond.methodLink RX3 52 yX3_find, Cond.static yX3_find, Cond.code yX3_find cX3_find 4 (some .int), Cond.methodLink RX5 128 yX3_addTeam, Cond.instanceMethod yX3_addTeam, Cond.selects RX3 yX3_addTeam yX3_addTeam]
def wsX5_readUpToStop_r4 : List Cond := [Cond.code yX3_addTeam cX3_addTeam 2 none, Cond.fieldLink RX3 15 "BallPots$Plan" "marksOf" "[I", Cond.methodLink RX5 93 yX5_readMark, Cond.instanceMethod yX5_readMark, Cond.selects RX5 yX5_readMark yX5_readMark, Cond.code yX5_readMark cX5_readMark 5 (some .boolean), Cond.methodLink RX5 135 yX3_markNamed, Cond.instanceMethod yX3_markNamed, Cond.selects RX3 yX3_markNamed yX3_markNamed, Cond.code yX3_markNamed cX3_markNamed 2 (some .int), Cond.fieldLink RX3 18 "BallPots$Plan" "markNames" "[I", Cond.fieldLink RX3 37 "BallPots$Plan" "marks" "I", Cond.methodLink RX5 138 yX3_addMark, Cond.instanceMethod yX3_addMark, Cond.selects RX3 yX3_addMark yX3_addMark, Cond.code yX3_addMark cX3_addMark 2 none, Cond.methodLink RX5 141 yX5_readTeam, Cond.instanceMethod yX5_readTeam, Cond.selects RX5 yX5_readTeam yX5_readTeam, Cond.code yX5_readTeam cX5_readTeam 2 (some .int), Cond.methodLink RX5 96 yX5_isRoomForBar, Cond.instanceMethod yX5_isRoomForBar, Cond.selects RX5 yX5_isRoomForBar yX5_isRoomForBar, Cond.code yX5_isRoomForBar cX5_isRoomForBar 1 (some .boolean)]
def wsX5_readUpToStop_r5 : List Cond := [Cond.methodLink RX5 99 yX5_readAtMost, Cond.instanceMethod yX5_readAtMost, Cond.selects RX5 yX5_readAtMost yX5_readAtMost, Cond.code yX5_readAtMost cX5_readAtMost 3 (some .boolean), Cond.methodLink RX5 151 yX3_teamsMarked, Cond.instanceMethod yX3_teamsMarked, Cond.selects RX3 yX3_teamsMarked yX3_teamsMarked, Cond.code yX3_teamsMarked cX3_teamsMarked 4 (some .int), Cond.methodLink RX5 154 yX3_addAtMost, Cond.instanceMethod yX3_addAtMost, Cond.selects RX3 yX3_addAtMost yX3_addAtMost, Cond.code yX3_addAtMost cX3_addAtMost 3 none, Cond.methodLink RX3 60 yX3_addBar, Cond.instanceMethod yX3_addBar, Cond.selects RX3 yX3_addBar yX3_addBar, Cond.code yX3_addBar cX3_addBar 3 none, Cond.fieldLink RX3 40 "BallPots$Plan" "bars" "I", Cond.fieldLink RX3 21 "BallPots$Plan" "barTeams" "[I", Cond.fieldLink RX3 24 "BallPots$Plan" "barRooms" "[I", Cond.methodLink RX5 102 yX5_readApart, Cond.instanceMethod yX5_readApart, Cond.selects RX5 yX5_readApart yX5_readApart, Cond.code yX5_readApart cX5_readApart 3 (some .boolean), Cond.methodLink RX5 105 yX5_readHeld]
def wsX5_readUpToStop_r6 : List Cond := [Cond.instanceMethod yX5_readHeld, Cond.selects RX5 yX5_readHeld yX5_readHeld, Cond.code yX5_readHeld cX5_readHeld 3 (some .boolean), Cond.methodLink RX5 158 yX3_addFixed, Cond.instanceMethod yX3_addFixed, Cond.selects RX3 yX3_addFixed yX3_addFixed, Cond.code yX3_addFixed cX3_addFixed 3 none, Cond.fieldLink RX3 43 "BallPots$Plan" "groupsNamed" "I", Cond.methodLink RX5 161 yX3_addNever, Cond.instanceMethod yX3_addNever, Cond.selects RX3 yX3_addNever yX3_addNever, Cond.code yX3_addNever cX3_addNever 3 none]
def wsX5_readUpToStop : List Cond := .code yX5_readUpToStop cX5_readUpToStop 2 (some .boolean) :: ((wsX5_readUpToStop_r1 ++ (wsX5_readUpToStop_r2 ++ (wsX5_readUpToStop_r3 ++ (wsX5_readUpToStop_r4 ++ (wsX5_readUpToStop_r5 ++ wsX5_readUpToStop_r6))))) ++ wsX50 ++ wsX30)
def wsX5_readStop_r1 : List Cond := [Cond.fieldLink RX5 47 "BallPots$Reader" "kind" "I", Cond.methodLink RX5 84 yX5_fail, Cond.instanceMethod yX5_fail, Cond.selects RX5 yX5_fail yX5_fail, Cond.initialized RX5, Cond.code yX5_fail cX5_fail 2 (some .boolean), Cond.fieldLink RX5 38 "BallPots$Reader" "fault" "I", Cond.fieldLink RX5 54 "BallPots$Reader" "start" "I", Cond.fieldLink RX5 18 "BallPots$Reader" "place" "I", Cond.methodLink RX5 44 yX5_step, Cond.instanceMethod yX5_step, Cond.selects RX5 yX5_step yX5_step, Cond.code yX5_step cX5_step 1 none, Cond.fieldLink RX5 35 "BallPots$Reader" "at" "I", Cond.fieldLink RX5 32 "BallPots$Reader" "length" "I", Cond.fieldLink RX5 22 "BallPots$Reader" "signs" "[I", Cond.methodLink RX5 57 yX5_isBlank, Cond.static yX5_isBlank, Cond.code yX5_isBlank cX5_isBlank 1 (some .boolean), Cond.methodLink RX5 61 yX5_isLetter, Cond.static yX5_isLetter, Cond.code yX5_isLetter cX5_isLetter 1 (some .boolean), Cond.methodLink RX5 64 yX5_stepWord, Cond.instanceMethod yX5_stepWord]
def wsX5_readStop_r2 : List Cond := [Cond.selects RX5 yX5_stepWord yX5_stepWord, Cond.code yX5_stepWord cX5_stepWord 2 none, Cond.fieldLink RX5 73 "BallPots$Reader" "value" "I", Cond.methodLink RX5 67 yX5_isDigit, Cond.static yX5_isDigit, Cond.code yX5_isDigit cX5_isDigit 1 (some .boolean), Cond.methodLink RX5 70 yX5_stepNumber, Cond.instanceMethod yX5_stepNumber, Cond.selects RX5 yX5_stepNumber yX5_stepNumber, Cond.code yX5_stepNumber cX5_stepNumber 1 none, Cond.methodLink RX5 26 Lib.Math.min.name, Cond.static Lib.Math.min.name, Cond.initialized "java/lang/Math", Cond.code Lib.Math.min.name Lib.Math.min.code 2 (some .int)]
def wsX5_readStop : List Cond := .code yX5_readStop cX5_readStop 1 (some .boolean) :: ((wsX5_readStop_r1 ++ wsX5_readStop_r2) ++ wsX50)
def wsX5_readLine_r1 : List Cond := [Cond.methodLink RX5 76 yX5_readUpToStop, Cond.instanceMethod yX5_readUpToStop, Cond.selects RX5 yX5_readUpToStop yX5_readUpToStop, Cond.initialized RX5, Cond.code yX5_readUpToStop cX5_readUpToStop 2 (some .boolean), Cond.fieldLink RX5 47 "BallPots$Reader" "kind" "I", Cond.fieldLink RX5 73 "BallPots$Reader" "value" "I", Cond.constant RX5 83 (254268947), Cond.methodLink RX5 84 yX5_fail, Cond.instanceMethod yX5_fail, Cond.selects RX5 yX5_fail yX5_fail, Cond.code yX5_fail cX5_fail 2 (some .boolean), Cond.fieldLink RX5 38 "BallPots$Reader" "fault" "I", Cond.fieldLink RX5 54 "BallPots$Reader" "start" "I", Cond.fieldLink RX5 18 "BallPots$Reader" "place" "I", Cond.methodLink RX5 87 yX5_readGroups, Cond.instanceMethod yX5_readGroups, Cond.selects RX5 yX5_readGroups yX5_readGroups, Cond.code yX5_readGroups cX5_readGroups 1 (some .boolean), Cond.fieldLink RX5 12 "BallPots$Reader" "plan" "LBallPots$Plan;", Cond.methodLink RX5 44 yX5_step, Cond.instanceMethod yX5_step, Cond.selects RX5 yX5_step yX5_step, Cond.code yX5_step cX5_step 1 none]
def wsX5_readLine_r2 : List Cond := [Cond.fieldLink RX5 35 "BallPots$Reader" "at" "I", Cond.fieldLink RX5 32 "BallPots$Reader" "length" "I", Cond.fieldLink RX5 22 "BallPots$Reader" "signs" "[I", Cond.methodLink RX5 57 yX5_isBlank, Cond.static yX5_isBlank, Cond.code yX5_isBlank cX5_isBlank 1 (some .boolean), Cond.methodLink RX5 61 yX5_isLetter, Cond.static yX5_isLetter, Cond.code yX5_isLetter cX5_isLetter 1 (some .boolean), Cond.methodLink RX5 64 yX5_stepWord, Cond.instanceMethod yX5_stepWord, Cond.selects RX5 yX5_stepWord yX5_stepWord, Cond.code yX5_stepWord cX5_stepWord 2 none, Cond.methodLink RX5 67 yX5_isDigit, Cond.static yX5_isDigit, Cond.code yX5_isDigit cX5_isDigit 1 (some .boolean), Cond.methodLink RX5 70 yX5_stepNumber, Cond.instanceMethod yX5_stepNumber, Cond.selects RX5 yX5_stepNumber yX5_stepNumber, Cond.code yX5_stepNumber cX5_stepNumber 1 none, Cond.methodLink RX5 26 Lib.Math.min.name, Cond.static Lib.Math.min.name, Cond.initialized "java/lang/Math", Cond.code Lib.Math.min.name Lib.Math.min.code 2 (some .int)]
def wsX5_readLine_r3 : List Cond := [Cond.methodLink RX5 108 yX5_isNumber, Cond.instanceMethod yX5_isNumber, Cond.selects RX5 yX5_isNumber yX5_isNumber, Cond.code yX5_isNumber cX5_isNumber 3 (some .boolean), Cond.methodLink RX5 90 yX5_readPot, Cond.instanceMethod yX5_readPot, Cond.selects RX5 yX5_readPot yX5_readPot, Cond.code yX5_readPot cX5_readPot 3 (some .boolean), Cond.methodLink RX5 121 yX5_isName, Cond.instanceMethod yX5_isName, Cond.selects RX5 yX5_isName yX5_isName, Cond.code yX5_isName cX5_isName 1 (some .boolean), Cond.methodLink RX5 164 yX5_isOfLanguage, Cond.static yX5_isOfLanguage, Cond.code yX5_isOfLanguage cX5_isOfLanguage 1 (some .boolean), Cond.methodLink RX5 124 yX3_teamNamed, Cond.instanceMethod yX3_teamNamed, Cond.selects RX3 yX3_teamNamed yX3_teamNamed, Cond.initialized RX3, Cond.code yX3_teamNamed cX3_teamNamed 2 (some .int), Cond.fieldLink RX3 9 "BallPots$Plan" "teamNames" "[I", Cond.fieldLink RX3 34 "BallPots$Plan" "teams" "I", Cond.methodLink RX3 52 yX3_find, Cond.static yX3_find]
def wsX5_readLine_r4 : List Cond := [Cond.code yX3_find cX3_find 4 (some .int), Cond.methodLink RX5 128 yX3_addTeam, Cond.instanceMethod yX3_addTeam, Cond.selects RX3 yX3_addTeam yX3_addTeam, Cond.code yX3_addTeam cX3_addTeam 2 none, Cond.fieldLink RX3 15 "BallPots$Plan" "marksOf" "[I", Cond.methodLink RX5 93 yX5_readMark, Cond.instanceMethod yX5_readMark, Cond.selects RX5 yX5_readMark yX5_readMark, Cond.code yX5_readMark cX5_readMark 5 (some .boolean), Cond.methodLink RX5 135 yX3_markNamed, Cond.instanceMethod yX3_markNamed, Cond.selects RX3 yX3_markNamed yX3_markNamed, Cond.code yX3_markNamed cX3_markNamed 2 (some .int), Cond.fieldLink RX3 18 "BallPots$Plan" "markNames" "[I", Cond.fieldLink RX3 37 "BallPots$Plan" "marks" "I", Cond.methodLink RX5 138 yX3_addMark, Cond.instanceMethod yX3_addMark, Cond.selects RX3 yX3_addMark yX3_addMark, Cond.code yX3_addMark cX3_addMark 2 none, Cond.methodLink RX5 141 yX5_readTeam, Cond.instanceMethod yX5_readTeam, Cond.selects RX5 yX5_readTeam yX5_readTeam, Cond.code yX5_readTeam cX5_readTeam 2 (some .int)]
def wsX5_readLine_r5 : List Cond := [Cond.methodLink RX5 96 yX5_isRoomForBar, Cond.instanceMethod yX5_isRoomForBar, Cond.selects RX5 yX5_isRoomForBar yX5_isRoomForBar, Cond.code yX5_isRoomForBar cX5_isRoomForBar 1 (some .boolean), Cond.methodLink RX5 99 yX5_readAtMost, Cond.instanceMethod yX5_readAtMost, Cond.selects RX5 yX5_readAtMost yX5_readAtMost, Cond.code yX5_readAtMost cX5_readAtMost 3 (some .boolean), Cond.methodLink RX5 151 yX3_teamsMarked, Cond.instanceMethod yX3_teamsMarked, Cond.selects RX3 yX3_teamsMarked yX3_teamsMarked, Cond.code yX3_teamsMarked cX3_teamsMarked 4 (some .int), Cond.methodLink RX5 154 yX3_addAtMost, Cond.instanceMethod yX3_addAtMost, Cond.selects RX3 yX3_addAtMost yX3_addAtMost, Cond.code yX3_addAtMost cX3_addAtMost 3 none, Cond.methodLink RX3 60 yX3_addBar, Cond.instanceMethod yX3_addBar, Cond.selects RX3 yX3_addBar yX3_addBar, Cond.code yX3_addBar cX3_addBar 3 none, Cond.fieldLink RX3 40 "BallPots$Plan" "bars" "I", Cond.fieldLink RX3 21 "BallPots$Plan" "barTeams" "[I", Cond.fieldLink RX3 24 "BallPots$Plan" "barRooms" "[I", Cond.methodLink RX5 102 yX5_readApart]
def wsX5_readLine_r6 : List Cond := [Cond.instanceMethod yX5_readApart, Cond.selects RX5 yX5_readApart yX5_readApart, Cond.code yX5_readApart cX5_readApart 3 (some .boolean), Cond.methodLink RX5 105 yX5_readHeld, Cond.instanceMethod yX5_readHeld, Cond.selects RX5 yX5_readHeld yX5_readHeld, Cond.code yX5_readHeld cX5_readHeld 3 (some .boolean), Cond.methodLink RX5 158 yX3_addFixed, Cond.instanceMethod yX3_addFixed, Cond.selects RX3 yX3_addFixed yX3_addFixed, Cond.code yX3_addFixed cX3_addFixed 3 none, Cond.fieldLink RX3 43 "BallPots$Plan" "groupsNamed" "I", Cond.methodLink RX5 161 yX3_addNever, Cond.instanceMethod yX3_addNever, Cond.selects RX3 yX3_addNever yX3_addNever, Cond.code yX3_addNever cX3_addNever 3 none, Cond.methodLink RX5 79 yX5_readStop, Cond.instanceMethod yX5_readStop, Cond.selects RX5 yX5_readStop yX5_readStop, Cond.code yX5_readStop cX5_readStop 1 (some .boolean)]
def wsX5_readLine : List Cond := .code yX5_readLine cX5_readLine 2 (some .boolean) :: ((wsX5_readLine_r1 ++ (wsX5_readLine_r2 ++ (wsX5_readLine_r3 ++ (wsX5_readLine_r4 ++ (wsX5_readLine_r5 ++ wsX5_readLine_r6))))) ++ wsX50 ++ wsX30)
def wsX5_readLines_r1 : List Cond := [Cond.fieldLink RX5 22 "BallPots$Reader" "signs" "[I", Cond.methodLink RX5 26 Lib.Math.min.name, Cond.static Lib.Math.min.name, Cond.initialized "java/lang/Math", Cond.code Lib.Math.min.name Lib.Math.min.code 2 (some .int), Cond.fieldLink RX5 32 "BallPots$Reader" "length" "I", Cond.fieldLink RX5 35 "BallPots$Reader" "at" "I", Cond.fieldLink RX5 38 "BallPots$Reader" "fault" "I", Cond.fieldLink RX5 18 "BallPots$Reader" "place" "I", Cond.fieldLink RX5 12 "BallPots$Reader" "plan" "LBallPots$Plan;", Cond.fieldLink RX5 47 "BallPots$Reader" "kind" "I", Cond.methodLink RX5 41 yX3_forget, Cond.instanceMethod yX3_forget, Cond.selects RX3 yX3_forget yX3_forget, Cond.initialized RX3, Cond.code yX3_forget cX3_forget 1 none, Cond.fieldLink RX3 27 "BallPots$Plan" "groups" "I", Cond.fieldLink RX3 31 "BallPots$Plan" "pots" "I", Cond.fieldLink RX3 34 "BallPots$Plan" "teams" "I", Cond.fieldLink RX3 37 "BallPots$Plan" "marks" "I", Cond.fieldLink RX3 40 "BallPots$Plan" "bars" "I", Cond.fieldLink RX3 43 "BallPots$Plan" "groupsNamed" "I", Cond.methodLink RX5 44 yX5_step, Cond.instanceMethod yX5_step]
def wsX5_readLines_r2 : List Cond := [Cond.selects RX5 yX5_step yX5_step, Cond.initialized RX5, Cond.code yX5_step cX5_step 1 none, Cond.fieldLink RX5 54 "BallPots$Reader" "start" "I", Cond.methodLink RX5 57 yX5_isBlank, Cond.static yX5_isBlank, Cond.code yX5_isBlank cX5_isBlank 1 (some .boolean), Cond.methodLink RX5 61 yX5_isLetter, Cond.static yX5_isLetter, Cond.code yX5_isLetter cX5_isLetter 1 (some .boolean), Cond.methodLink RX5 64 yX5_stepWord, Cond.instanceMethod yX5_stepWord, Cond.selects RX5 yX5_stepWord yX5_stepWord, Cond.code yX5_stepWord cX5_stepWord 2 none, Cond.fieldLink RX5 73 "BallPots$Reader" "value" "I", Cond.methodLink RX5 67 yX5_isDigit, Cond.static yX5_isDigit, Cond.code yX5_isDigit cX5_isDigit 1 (some .boolean), Cond.methodLink RX5 70 yX5_stepNumber, Cond.instanceMethod yX5_stepNumber, Cond.selects RX5 yX5_stepNumber yX5_stepNumber, Cond.code yX5_stepNumber cX5_stepNumber 1 none, Cond.methodLink RX5 50 yX5_readLine, Cond.instanceMethod yX5_readLine]
def wsX5_readLines_r3 : List Cond := [Cond.selects RX5 yX5_readLine yX5_readLine, Cond.code yX5_readLine cX5_readLine 2 (some .boolean), Cond.methodLink RX5 76 yX5_readUpToStop, Cond.instanceMethod yX5_readUpToStop, Cond.selects RX5 yX5_readUpToStop yX5_readUpToStop, Cond.code yX5_readUpToStop cX5_readUpToStop 2 (some .boolean), Cond.constant RX5 83 (254268947), Cond.methodLink RX5 84 yX5_fail, Cond.instanceMethod yX5_fail, Cond.selects RX5 yX5_fail yX5_fail, Cond.code yX5_fail cX5_fail 2 (some .boolean), Cond.methodLink RX5 87 yX5_readGroups, Cond.instanceMethod yX5_readGroups, Cond.selects RX5 yX5_readGroups yX5_readGroups, Cond.code yX5_readGroups cX5_readGroups 1 (some .boolean), Cond.methodLink RX5 108 yX5_isNumber, Cond.instanceMethod yX5_isNumber, Cond.selects RX5 yX5_isNumber yX5_isNumber, Cond.code yX5_isNumber cX5_isNumber 3 (some .boolean), Cond.methodLink RX5 90 yX5_readPot, Cond.instanceMethod yX5_readPot, Cond.selects RX5 yX5_readPot yX5_readPot, Cond.code yX5_readPot cX5_readPot 3 (some .boolean), Cond.methodLink RX5 121 yX5_isName]
def wsX5_readLines_r4 : List Cond := [Cond.instanceMethod yX5_isName, Cond.selects RX5 yX5_isName yX5_isName, Cond.code yX5_isName cX5_isName 1 (some .boolean), Cond.methodLink RX5 164 yX5_isOfLanguage, Cond.static yX5_isOfLanguage, Cond.code yX5_isOfLanguage cX5_isOfLanguage 1 (some .boolean), Cond.methodLink RX5 124 yX3_teamNamed, Cond.instanceMethod yX3_teamNamed, Cond.selects RX3 yX3_teamNamed yX3_teamNamed, Cond.code yX3_teamNamed cX3_teamNamed 2 (some .int), Cond.fieldLink RX3 9 "BallPots$Plan" "teamNames" "[I", Cond.methodLink RX3 52 yX3_find, Cond.static yX3_find, Cond.code yX3_find cX3_find 4 (some .int), Cond.methodLink RX5 128 yX3_addTeam, Cond.instanceMethod yX3_addTeam, Cond.selects RX3 yX3_addTeam yX3_addTeam, Cond.code yX3_addTeam cX3_addTeam 2 none, Cond.fieldLink RX3 15 "BallPots$Plan" "marksOf" "[I", Cond.methodLink RX5 93 yX5_readMark, Cond.instanceMethod yX5_readMark, Cond.selects RX5 yX5_readMark yX5_readMark, Cond.code yX5_readMark cX5_readMark 5 (some .boolean), Cond.methodLink RX5 135 yX3_markNamed]
def wsX5_readLines_r5 : List Cond := [Cond.instanceMethod yX3_markNamed, Cond.selects RX3 yX3_markNamed yX3_markNamed, Cond.code yX3_markNamed cX3_markNamed 2 (some .int), Cond.fieldLink RX3 18 "BallPots$Plan" "markNames" "[I", Cond.methodLink RX5 138 yX3_addMark, Cond.instanceMethod yX3_addMark, Cond.selects RX3 yX3_addMark yX3_addMark, Cond.code yX3_addMark cX3_addMark 2 none, Cond.methodLink RX5 141 yX5_readTeam, Cond.instanceMethod yX5_readTeam, Cond.selects RX5 yX5_readTeam yX5_readTeam, Cond.code yX5_readTeam cX5_readTeam 2 (some .int), Cond.methodLink RX5 96 yX5_isRoomForBar, Cond.instanceMethod yX5_isRoomForBar, Cond.selects RX5 yX5_isRoomForBar yX5_isRoomForBar, Cond.code yX5_isRoomForBar cX5_isRoomForBar 1 (some .boolean), Cond.methodLink RX5 99 yX5_readAtMost, Cond.instanceMethod yX5_readAtMost, Cond.selects RX5 yX5_readAtMost yX5_readAtMost, Cond.code yX5_readAtMost cX5_readAtMost 3 (some .boolean), Cond.methodLink RX5 151 yX3_teamsMarked, Cond.instanceMethod yX3_teamsMarked, Cond.selects RX3 yX3_teamsMarked yX3_teamsMarked, Cond.code yX3_teamsMarked cX3_teamsMarked 4 (some .int)]
def wsX5_readLines_r6 : List Cond := [Cond.methodLink RX5 154 yX3_addAtMost, Cond.instanceMethod yX3_addAtMost, Cond.selects RX3 yX3_addAtMost yX3_addAtMost, Cond.code yX3_addAtMost cX3_addAtMost 3 none, Cond.methodLink RX3 60 yX3_addBar, Cond.instanceMethod yX3_addBar, Cond.selects RX3 yX3_addBar yX3_addBar, Cond.code yX3_addBar cX3_addBar 3 none, Cond.fieldLink RX3 21 "BallPots$Plan" "barTeams" "[I", Cond.fieldLink RX3 24 "BallPots$Plan" "barRooms" "[I", Cond.methodLink RX5 102 yX5_readApart, Cond.instanceMethod yX5_readApart, Cond.selects RX5 yX5_readApart yX5_readApart, Cond.code yX5_readApart cX5_readApart 3 (some .boolean), Cond.methodLink RX5 105 yX5_readHeld, Cond.instanceMethod yX5_readHeld, Cond.selects RX5 yX5_readHeld yX5_readHeld, Cond.code yX5_readHeld cX5_readHeld 3 (some .boolean), Cond.methodLink RX5 158 yX3_addFixed, Cond.instanceMethod yX3_addFixed, Cond.selects RX3 yX3_addFixed yX3_addFixed, Cond.code yX3_addFixed cX3_addFixed 3 none, Cond.methodLink RX5 161 yX3_addNever, Cond.instanceMethod yX3_addNever]
def wsX5_readLines_r7 : List Cond := [Cond.selects RX3 yX3_addNever yX3_addNever, Cond.code yX3_addNever cX3_addNever 3 none, Cond.methodLink RX5 79 yX5_readStop, Cond.instanceMethod yX5_readStop, Cond.selects RX5 yX5_readStop yX5_readStop, Cond.code yX5_readStop cX5_readStop 1 (some .boolean)]
def wsX5_readLines : List Cond := .code yX5_readLines cX5_readLines 4 (some .int) :: ((wsX5_readLines_r1 ++ (wsX5_readLines_r2 ++ (wsX5_readLines_r3 ++ (wsX5_readLines_r4 ++ (wsX5_readLines_r5 ++ (wsX5_readLines_r6 ++ wsX5_readLines_r7)))))) ++ wsX50 ++ wsX30)
def wsX8_fullPots : List Cond := .code yX8_fullPots cX8_fullPots 1 (some .int) :: ([.fieldLink RX8 27 "BallPots$Stage" "plan" "LBallPots$Plan;", .fieldLink RX8 47 "BallPots$Stage" "out" "I", .methodLink RX8 57 yX3_potOf, .instanceMethod yX3_potOf, .selects RX3 yX3_potOf yX3_potOf, .initialized RX3, .code yX3_potOf cX3_potOf 2 (some .int), .fieldLink RX3 27 "BallPots$Plan" "groups" "I"] ++ wsX80 ++ wsX30)
def wsX8_ranksIf : List Cond := .code yX8_ranksIf cX8_ranksIf 8 (some .int) :: ([.fieldLink RX8 31 "BallPots$Stage" "ranks" "LBallPots$Ranks;", .fieldLink RX8 27 "BallPots$Stage" "plan" "LBallPots$Plan;", .fieldLink RX8 18 "BallPots$Stage" "groupOf" "[I"] ++ wsX80 ++ wsX40 ++ wsX30)
def wsX8_ranksLeft : List Cond := .code yX8_ranksLeft cX8_ranksLeft 2 (some .int) :: ([.methodLink RX8 73 yX8_ranksIf, .instanceMethod yX8_ranksIf, .selects RX8 yX8_ranksIf yX8_ranksIf, .initialized RX8, .code yX8_ranksIf cX8_ranksIf 8 (some .int), .fieldLink RX8 31 "BallPots$Stage" "ranks" "LBallPots$Ranks;", .fieldLink RX8 27 "BallPots$Stage" "plan" "LBallPots$Plan;", .fieldLink RX8 18 "BallPots$Stage" "groupOf" "[I"] ++ wsX80 ++ wsX40 ++ wsX30)
def wsX8_potInTurn : List Cond := .code yX8_potInTurn cX8_potInTurn 1 (some .int) :: ([.fieldLink RX8 47 "BallPots$Stage" "out" "I", .fieldLink RX8 27 "BallPots$Stage" "plan" "LBallPots$Plan;", .fieldLink RX8 9 "BallPots$Stage" "potAt" "[I", .methodLink RX8 69 yX8_fullPots, .instanceMethod yX8_fullPots, .selects RX8 yX8_fullPots yX8_fullPots, .initialized RX8, .code yX8_fullPots cX8_fullPots 1 (some .int), .methodLink RX8 57 yX3_potOf, .instanceMethod yX3_potOf, .selects RX3 yX3_potOf yX3_potOf, .initialized RX3, .code yX3_potOf cX3_potOf 2 (some .int), .fieldLink RX3 27 "BallPots$Plan" "groups" "I"] ++ wsX80 ++ wsX30)
def wsX8_empty : List Cond := .code yX8_empty cX8_empty 1 none :: ([.fieldLink RX8 47 "BallPots$Stage" "out" "I", .fieldLink RX8 18 "BallPots$Stage" "groupOf" "[I", .methodLink RX8 51 yJ7_fill_53178, .static yJ7_fill_53178, .initialized RJ7, .code yJ7_fill_53178 cJ7_fill_53178 4 none] ++ wsX80)
def wsX8_putInTurn : List Cond := .code yX8_putInTurn cX8_putInTurn 1 none :: ([.fieldLink RX8 9 "BallPots$Stage" "potAt" "[I", .methodLink RX8 38 arraycopyName, .native arraycopyName, .static arraycopyName, .initialized "java/lang/System", .fieldLink RX8 15 "BallPots$Stage" "groupAt" "[I", .methodLink RX8 44 yX8_empty, .instanceMethod yX8_empty, .selects RX8 yX8_empty yX8_empty, .initialized RX8, .code yX8_empty cX8_empty 1 none, .fieldLink RX8 47 "BallPots$Stage" "out" "I", .fieldLink RX8 18 "BallPots$Stage" "groupOf" "[I", .methodLink RX8 51 yJ7_fill_53178, .static yJ7_fill_53178, .initialized RJ7, .code yJ7_fill_53178 cJ7_fill_53178 4 none] ++ wsX80)
def wsX9_forget : List Cond := .code yX9_forget cX9_forget 1 none :: ([.fieldLink RX9 18 "BallPots$Swaps" "done" "I", .fieldLink RX9 33 "BallPots$Swaps" "partsFresh" "Z"] ++ wsX90)
def wsX10_codeOf : List Cond := .code yX10_codeOf cX10_codeOf 7 (some .int) :: ([.fieldLink RX10 21 "BallPots$Tree" "draws" "LBallPots$Draws;", .fieldLink RX10 18 "BallPots$Tree" "potAt" "[I"] ++ wsX100 ++ wsX20 ++ wsX40)
def wsX10_fillLast : List Cond := .code yX10_fillLast cX10_fillLast 8 none :: ([.fieldLink RX10 21 "BallPots$Tree" "draws" "LBallPots$Draws;", .fieldLink RX10 18 "BallPots$Tree" "potAt" "[I", .fieldLink RX10 15 "BallPots$Tree" "from" "[I", .fieldLink RX10 11 "BallPots$Tree" "sets" "[I", .methodLink RX10 66 yX10_codeOf, .instanceMethod yX10_codeOf, .selects RX10 yX10_codeOf yX10_codeOf, .initialized RX10, .code yX10_codeOf cX10_codeOf 7 (some .int)] ++ wsX100 ++ wsX20 ++ wsX30 ++ wsX40)
def wsX10_fillFromNext : List Cond := .code yX10_fillFromNext cX10_fillFromNext 7 none :: ([.fieldLink RX10 21 "BallPots$Tree" "draws" "LBallPots$Draws;", .fieldLink RX10 15 "BallPots$Tree" "from" "[I", .fieldLink RX10 11 "BallPots$Tree" "sets" "[I"] ++ wsX100 ++ wsX20 ++ wsX40)
def wsX10_build : List Cond := .code yX10_build cX10_build 5 none :: ([.fieldLink RX10 18 "BallPots$Tree" "potAt" "[I", .methodLink RX10 25 arraycopyName, .native arraycopyName, .static arraycopyName, .initialized "java/lang/System", .fieldLink RX10 21 "BallPots$Tree" "draws" "LBallPots$Draws;", .fieldLink RX10 15 "BallPots$Tree" "from" "[I", .fieldLink RX10 59 "BallPots$Tree" "fresh" "Z", .methodLink RX10 52 yX10_fillLast, .instanceMethod yX10_fillLast, .selects RX10 yX10_fillLast yX10_fillLast, .initialized RX10, .code yX10_fillLast cX10_fillLast 8 none, .fieldLink RX10 11 "BallPots$Tree" "sets" "[I", .methodLink RX10 66 yX10_codeOf, .instanceMethod yX10_codeOf, .selects RX10 yX10_codeOf yX10_codeOf, .code yX10_codeOf cX10_codeOf 7 (some .int), .methodLink RX10 55 yX10_fillFromNext, .instanceMethod yX10_fillFromNext, .selects RX10 yX10_fillFromNext yX10_fillFromNext, .code yX10_fillFromNext cX10_fillFromNext 7 none] ++ wsX100 ++ wsX20 ++ wsX30 ++ wsX40)
def wsX11_stageChanged : List Cond := .code yX11_stageChanged cX11_stageChanged 2 none :: ([.fieldLink RX11 82 "BallPots" "fromNow" "[LBallPots$Chances;"] ++ wsX110 ++ wsX10)
def wsX11_startChanged : List Cond := .code yX11_startChanged cX11_startChanged 1 none :: ([.fieldLink RX11 78 "BallPots" "fromStart" "[LBallPots$Chances;", .methodLink RX11 157 yX11_stageChanged, .instanceMethod yX11_stageChanged, .selects RX11 yX11_stageChanged yX11_stageChanged, .initialized RX11, .code yX11_stageChanged cX11_stageChanged 2 none, .fieldLink RX11 82 "BallPots" "fromNow" "[LBallPots$Chances;"] ++ wsX110 ++ wsX10)
def wsX11_beginAnew_r1 : List Cond := [Cond.fieldLink RX11 32 "BallPots" "ranks" "LBallPots$Ranks;", Cond.fieldLink RX11 16 "BallPots" "plan" "LBallPots$Plan;", Cond.fieldLink RX11 41 "BallPots" "draws" "LBallPots$Draws;", Cond.fieldLink RX11 48 "BallPots" "stage" "LBallPots$Stage;", Cond.fieldLink RX11 57 "BallPots" "treeNow" "LBallPots$Tree;", Cond.fieldLink RX11 61 "BallPots" "treeInTurn" "LBallPots$Tree;", Cond.fieldLink RX11 78 "BallPots" "fromStart" "[LBallPots$Chances;", Cond.fieldLink RX11 93 "BallPots" "barTable" "LBallPots$BarTable;", Cond.fieldLink RX11 100 "BallPots" "swaps" "LBallPots$Swaps;", Cond.fieldLink RX11 104 "BallPots" "nearestOrder" "I", Cond.fieldLink RX11 108 "BallPots" "nearestArrangement" "I", Cond.methodLink RX11 136 yX4_set, Cond.instanceMethod yX4_set, Cond.selects RX4 yX4_set yX4_set, Cond.initialized RX4, Cond.code yX4_set cX4_set 3 none, Cond.fieldLink RX4 27 "BallPots$Ranks" "groups" "I", Cond.fieldLink RX4 31 "BallPots$Ranks" "many" "I", Cond.fieldLink RX4 18 "BallPots$Ranks" "having" "[I", Cond.fieldLink RX4 24 "BallPots$Ranks" "row" "[I", Cond.fieldLink RX4 47 "BallPots$Ranks" "everyRank" "I", Cond.methodLink RX4 34 yJ7_fill_53178, Cond.static yJ7_fill_53178, Cond.initialized RJ7]
def wsX11_beginAnew_r2 : List Cond := [Cond.code yJ7_fill_53178 cJ7_fill_53178 4 none, Cond.methodLink RX4 40 yX4_readRow, Cond.static yX4_readRow, Cond.code yX4_readRow cX4_readRow 5 (some .boolean), Cond.methodLink RX4 44 yX4_addRow, Cond.instanceMethod yX4_addRow, Cond.selects RX4 yX4_addRow yX4_addRow, Cond.code yX4_addRow cX4_addRow 3 none, Cond.fieldLink RX4 9 "BallPots$Ranks" "groupOf" "[I", Cond.fieldLink RX4 15 "BallPots$Ranks" "placeIn" "[I", Cond.methodLink RX4 50 yX4_setSwaps, Cond.instanceMethod yX4_setSwaps, Cond.selects RX4 yX4_setSwaps yX4_setSwaps, Cond.code yX4_setSwaps cX4_setSwaps 5 none, Cond.fieldLink RX4 21 "BallPots$Ranks" "swapped" "[I", Cond.fieldLink RX4 58 "BallPots$Ranks" "swapsAPot" "I", Cond.methodLink RX4 54 yX4_rankWithSwapped, Cond.instanceMethod yX4_rankWithSwapped, Cond.selects RX4 yX4_rankWithSwapped yX4_rankWithSwapped, Cond.code yX4_rankWithSwapped cX4_rankWithSwapped 8 (some .int), Cond.methodLink RX4 61 yX4_groupAt, Cond.instanceMethod yX4_groupAt, Cond.selects RX4 yX4_groupAt yX4_groupAt, Cond.code yX4_groupAt cX4_groupAt 3 (some .int)]
def wsX11_beginAnew_r3 : List Cond := [Cond.methodLink RX4 65 yX4_only, Cond.static yX4_only, Cond.code yX4_only cX4_only 1 (some .int), Cond.methodLink RX4 69 yJ6_bitCount_0f7a4, Cond.static yJ6_bitCount_0f7a4, Cond.initialized RJ6, Cond.code yJ6_bitCount_0f7a4 cJ6_bitCount_0f7a4 1 (some .int), Cond.constant RJ6 265 (1431655765), Cond.constant RJ6 266 (858993459), Cond.constant RJ6 267 (252645135), Cond.methodLink RX11 139 yX2_renew, Cond.instanceMethod yX2_renew, Cond.selects RX2 yX2_renew yX2_renew, Cond.initialized RX2, Cond.code yX2_renew cX2_renew 2 none, Cond.fieldLink RX2 38 "BallPots$Draws" "total" "I", Cond.fieldLink RX2 30 "BallPots$Draws" "plan" "LBallPots$Plan;", Cond.fieldLink RX2 9 "BallPots$Draws" "step" "[I", Cond.fieldLink RX2 34 "BallPots$Draws" "ranks" "LBallPots$Ranks;", Cond.fieldLink RX2 15 "BallPots$Draws" "broken" "[I", Cond.arrayClass .int, Cond.fieldLink RX2 18 "BallPots$Draws" "lawfulCodes" "[I", Cond.methodLink RX2 52 yJ7_fill_fda19, Cond.static yJ7_fill_fda19]
def wsX11_beginAnew_r4 : List Cond := [Cond.code yJ7_fill_fda19 cJ7_fill_fda19 5 none, Cond.methodLink RJ7 13 yJ7_rangeCheck_23922, Cond.static yJ7_rangeCheck_23922, Cond.code yJ7_rangeCheck_23922 cJ7_rangeCheck_23922 3 none, Cond.classLink RJ7 68 RJx00060, Cond.instantiable RJx00060 6, Cond.initialized RJx00060, Cond.methodLink RX2 64 yX2_tellHeld, Cond.instanceMethod yX2_tellHeld, Cond.selects RX2 yX2_tellHeld yX2_tellHeld, Cond.code yX2_tellHeld cX2_tellHeld 7 none, Cond.fieldLink RX2 27 "BallPots$Draws" "held" "[I", Cond.methodLink RX2 84 yX4_groupAt, Cond.methodLink RX2 71 yX2_breakBar, Cond.instanceMethod yX2_breakBar, Cond.selects RX2 yX2_breakBar yX2_breakBar, Cond.code yX2_breakBar cX2_breakBar 8 none, Cond.constant RX2 91 (34952), Cond.methodLink RX2 88 yX2_rankIn, Cond.instanceMethod yX2_rankIn, Cond.selects RX2 yX2_rankIn yX2_rankIn, Cond.code yX2_rankIn cX2_rankIn 5 (some .int), Cond.methodLink RX2 75 yX2_listLawful, Cond.instanceMethod yX2_listLawful]
def wsX11_beginAnew_r5 : List Cond := [Cond.selects RX2 yX2_listLawful yX2_listLawful, Cond.code yX2_listLawful cX2_listLawful 2 none, Cond.fieldLink RX2 92 "BallPots$Draws" "lawfulOnes" "I", Cond.methodLink RX2 78 yX2_tellWithin, Cond.instanceMethod yX2_tellWithin, Cond.selects RX2 yX2_tellWithin yX2_tellWithin, Cond.code yX2_tellWithin cX2_tellWithin 2 none, Cond.fieldLink RX2 21 "BallPots$Draws" "within" "[I", Cond.methodLink RX2 95 yJ7_fill_53178, Cond.methodLink RX2 98 yX2_addUp, Cond.static yX2_addUp, Cond.code yX2_addUp cX2_addUp 5 none, Cond.methodLink RX11 142 yX8_putInTurn, Cond.instanceMethod yX8_putInTurn, Cond.selects RX8 yX8_putInTurn yX8_putInTurn, Cond.initialized RX8, Cond.code yX8_putInTurn cX8_putInTurn 1 none, Cond.fieldLink RX8 9 "BallPots$Stage" "potAt" "[I", Cond.methodLink RX8 38 arraycopyName, Cond.native arraycopyName, Cond.static arraycopyName, Cond.initialized "java/lang/System", Cond.fieldLink RX8 15 "BallPots$Stage" "groupAt" "[I", Cond.methodLink RX8 44 yX8_empty]
def wsX11_beginAnew_r6 : List Cond := [Cond.instanceMethod yX8_empty, Cond.selects RX8 yX8_empty yX8_empty, Cond.code yX8_empty cX8_empty 1 none, Cond.fieldLink RX8 47 "BallPots$Stage" "out" "I", Cond.fieldLink RX8 18 "BallPots$Stage" "groupOf" "[I", Cond.methodLink RX8 51 yJ7_fill_53178, Cond.methodLink RX11 151 yX9_forget, Cond.instanceMethod yX9_forget, Cond.selects RX9 yX9_forget yX9_forget, Cond.initialized RX9, Cond.code yX9_forget cX9_forget 1 none, Cond.fieldLink RX9 18 "BallPots$Swaps" "done" "I", Cond.fieldLink RX9 33 "BallPots$Swaps" "partsFresh" "Z", Cond.methodLink RX11 154 yX11_startChanged, Cond.instanceMethod yX11_startChanged, Cond.selects RX11 yX11_startChanged yX11_startChanged, Cond.initialized RX11, Cond.code yX11_startChanged cX11_startChanged 1 none, Cond.methodLink RX11 157 yX11_stageChanged, Cond.instanceMethod yX11_stageChanged, Cond.selects RX11 yX11_stageChanged yX11_stageChanged, Cond.code yX11_stageChanged cX11_stageChanged 2 none, Cond.fieldLink RX11 82 "BallPots" "fromNow" "[LBallPots$Chances;"]
def wsX11_beginAnew : List Cond := .code yX11_beginAnew cX11_beginAnew 1 none :: ((wsX11_beginAnew_r1 ++ (wsX11_beginAnew_r2 ++ (wsX11_beginAnew_r3 ++ (wsX11_beginAnew_r4 ++ (wsX11_beginAnew_r5 ++ wsX11_beginAnew_r6))))) ++ wsX110 ++ wsX30 ++ wsX100 ++ wsX10 ++ wsX00 ++ wsX40 ++ wsX20 ++ wsJx000600 ++ wsX80 ++ wsX90)
def wsX11_tapeFour : List Cond := .code yX11_tapeFour cX11_tapeFour 3 none :: ([.fieldLink RX11 114 "BallPots" "taped" "I", .fieldLink RX11 9 "BallPots" "tape" "[I"] ++ wsX110)
def wsX11_feed : List Cond := .code yX11_feed cX11_feed 6 (some .int) :: ([.fieldLink RX11 114 "BallPots" "taped" "I", .methodLink RX11 117 yX11_tapeFour, .instanceMethod yX11_tapeFour, .selects RX11 yX11_tapeFour yX11_tapeFour, .initialized RX11, .code yX11_tapeFour cX11_tapeFour 3 none, .fieldLink RX11 9 "BallPots" "tape" "[I"] ++ wsX110)
def wsX11_text_r1 : List Cond := [Cond.fieldLink RX11 114 "BallPots" "taped" "I", Cond.fieldLink RX11 25 "BallPots" "reader" "LBallPots$Reader;", Cond.fieldLink RX11 16 "BallPots" "plan" "LBallPots$Plan;", Cond.methodLink RX11 121 yX5_readLines, Cond.instanceMethod yX5_readLines, Cond.selects RX5 yX5_readLines yX5_readLines, Cond.initialized RX5, Cond.code yX5_readLines cX5_readLines 4 (some .int), Cond.fieldLink RX5 22 "BallPots$Reader" "signs" "[I", Cond.methodLink RX5 26 Lib.Math.min.name, Cond.static Lib.Math.min.name, Cond.initialized "java/lang/Math", Cond.code Lib.Math.min.name Lib.Math.min.code 2 (some .int), Cond.fieldLink RX5 32 "BallPots$Reader" "length" "I", Cond.fieldLink RX5 35 "BallPots$Reader" "at" "I", Cond.fieldLink RX5 38 "BallPots$Reader" "fault" "I", Cond.fieldLink RX5 18 "BallPots$Reader" "place" "I", Cond.fieldLink RX5 12 "BallPots$Reader" "plan" "LBallPots$Plan;", Cond.fieldLink RX5 47 "BallPots$Reader" "kind" "I", Cond.methodLink RX5 41 yX3_forget, Cond.instanceMethod yX3_forget, Cond.selects RX3 yX3_forget yX3_forget, Cond.initialized RX3, Cond.code yX3_forget cX3_forget 1 none]
def wsX11_text_r2 : List Cond := [Cond.fieldLink RX3 27 "BallPots$Plan" "groups" "I", Cond.fieldLink RX3 31 "BallPots$Plan" "pots" "I", Cond.fieldLink RX3 34 "BallPots$Plan" "teams" "I", Cond.fieldLink RX3 37 "BallPots$Plan" "marks" "I", Cond.fieldLink RX3 40 "BallPots$Plan" "bars" "I", Cond.fieldLink RX3 43 "BallPots$Plan" "groupsNamed" "I", Cond.methodLink RX5 44 yX5_step, Cond.instanceMethod yX5_step, Cond.selects RX5 yX5_step yX5_step, Cond.code yX5_step cX5_step 1 none, Cond.fieldLink RX5 54 "BallPots$Reader" "start" "I", Cond.methodLink RX5 57 yX5_isBlank, Cond.static yX5_isBlank, Cond.code yX5_isBlank cX5_isBlank 1 (some .boolean), Cond.methodLink RX5 61 yX5_isLetter, Cond.static yX5_isLetter, Cond.code yX5_isLetter cX5_isLetter 1 (some .boolean), Cond.methodLink RX5 64 yX5_stepWord, Cond.instanceMethod yX5_stepWord, Cond.selects RX5 yX5_stepWord yX5_stepWord, Cond.code yX5_stepWord cX5_stepWord 2 none, Cond.fieldLink RX5 73 "BallPots$Reader" "value" "I", Cond.methodLink RX5 67 yX5_isDigit, Cond.static yX5_isDigit]
def wsX11_text_r3 : List Cond := [Cond.code yX5_isDigit cX5_isDigit 1 (some .boolean), Cond.methodLink RX5 70 yX5_stepNumber, Cond.instanceMethod yX5_stepNumber, Cond.selects RX5 yX5_stepNumber yX5_stepNumber, Cond.code yX5_stepNumber cX5_stepNumber 1 none, Cond.methodLink RX5 50 yX5_readLine, Cond.instanceMethod yX5_readLine, Cond.selects RX5 yX5_readLine yX5_readLine, Cond.code yX5_readLine cX5_readLine 2 (some .boolean), Cond.methodLink RX5 76 yX5_readUpToStop, Cond.instanceMethod yX5_readUpToStop, Cond.selects RX5 yX5_readUpToStop yX5_readUpToStop, Cond.code yX5_readUpToStop cX5_readUpToStop 2 (some .boolean), Cond.constant RX5 83 (254268947), Cond.methodLink RX5 84 yX5_fail, Cond.instanceMethod yX5_fail, Cond.selects RX5 yX5_fail yX5_fail, Cond.code yX5_fail cX5_fail 2 (some .boolean), Cond.methodLink RX5 87 yX5_readGroups, Cond.instanceMethod yX5_readGroups, Cond.selects RX5 yX5_readGroups yX5_readGroups, Cond.code yX5_readGroups cX5_readGroups 1 (some .boolean), Cond.methodLink RX5 108 yX5_isNumber, Cond.instanceMethod yX5_isNumber]
def wsX11_text_r4 : List Cond := [Cond.selects RX5 yX5_isNumber yX5_isNumber, Cond.code yX5_isNumber cX5_isNumber 3 (some .boolean), Cond.methodLink RX5 90 yX5_readPot, Cond.instanceMethod yX5_readPot, Cond.selects RX5 yX5_readPot yX5_readPot, Cond.code yX5_readPot cX5_readPot 3 (some .boolean), Cond.methodLink RX5 121 yX5_isName, Cond.instanceMethod yX5_isName, Cond.selects RX5 yX5_isName yX5_isName, Cond.code yX5_isName cX5_isName 1 (some .boolean), Cond.methodLink RX5 164 yX5_isOfLanguage, Cond.static yX5_isOfLanguage, Cond.code yX5_isOfLanguage cX5_isOfLanguage 1 (some .boolean), Cond.methodLink RX5 124 yX3_teamNamed, Cond.instanceMethod yX3_teamNamed, Cond.selects RX3 yX3_teamNamed yX3_teamNamed, Cond.code yX3_teamNamed cX3_teamNamed 2 (some .int), Cond.fieldLink RX3 9 "BallPots$Plan" "teamNames" "[I", Cond.methodLink RX3 52 yX3_find, Cond.static yX3_find, Cond.code yX3_find cX3_find 4 (some .int), Cond.methodLink RX5 128 yX3_addTeam, Cond.instanceMethod yX3_addTeam, Cond.selects RX3 yX3_addTeam yX3_addTeam]
def wsX11_text_r5 : List Cond := [Cond.code yX3_addTeam cX3_addTeam 2 none, Cond.fieldLink RX3 15 "BallPots$Plan" "marksOf" "[I", Cond.methodLink RX5 93 yX5_readMark, Cond.instanceMethod yX5_readMark, Cond.selects RX5 yX5_readMark yX5_readMark, Cond.code yX5_readMark cX5_readMark 5 (some .boolean), Cond.methodLink RX5 135 yX3_markNamed, Cond.instanceMethod yX3_markNamed, Cond.selects RX3 yX3_markNamed yX3_markNamed, Cond.code yX3_markNamed cX3_markNamed 2 (some .int), Cond.fieldLink RX3 18 "BallPots$Plan" "markNames" "[I", Cond.methodLink RX5 138 yX3_addMark, Cond.instanceMethod yX3_addMark, Cond.selects RX3 yX3_addMark yX3_addMark, Cond.code yX3_addMark cX3_addMark 2 none, Cond.methodLink RX5 141 yX5_readTeam, Cond.instanceMethod yX5_readTeam, Cond.selects RX5 yX5_readTeam yX5_readTeam, Cond.code yX5_readTeam cX5_readTeam 2 (some .int), Cond.methodLink RX5 96 yX5_isRoomForBar, Cond.instanceMethod yX5_isRoomForBar, Cond.selects RX5 yX5_isRoomForBar yX5_isRoomForBar, Cond.code yX5_isRoomForBar cX5_isRoomForBar 1 (some .boolean), Cond.methodLink RX5 99 yX5_readAtMost]
def wsX11_text_r6 : List Cond := [Cond.instanceMethod yX5_readAtMost, Cond.selects RX5 yX5_readAtMost yX5_readAtMost, Cond.code yX5_readAtMost cX5_readAtMost 3 (some .boolean), Cond.methodLink RX5 151 yX3_teamsMarked, Cond.instanceMethod yX3_teamsMarked, Cond.selects RX3 yX3_teamsMarked yX3_teamsMarked, Cond.code yX3_teamsMarked cX3_teamsMarked 4 (some .int), Cond.methodLink RX5 154 yX3_addAtMost, Cond.instanceMethod yX3_addAtMost, Cond.selects RX3 yX3_addAtMost yX3_addAtMost, Cond.code yX3_addAtMost cX3_addAtMost 3 none, Cond.methodLink RX3 60 yX3_addBar, Cond.instanceMethod yX3_addBar, Cond.selects RX3 yX3_addBar yX3_addBar, Cond.code yX3_addBar cX3_addBar 3 none, Cond.fieldLink RX3 21 "BallPots$Plan" "barTeams" "[I", Cond.fieldLink RX3 24 "BallPots$Plan" "barRooms" "[I", Cond.methodLink RX5 102 yX5_readApart, Cond.instanceMethod yX5_readApart, Cond.selects RX5 yX5_readApart yX5_readApart, Cond.code yX5_readApart cX5_readApart 3 (some .boolean), Cond.methodLink RX5 105 yX5_readHeld, Cond.instanceMethod yX5_readHeld, Cond.selects RX5 yX5_readHeld yX5_readHeld]
def wsX11_text_r7 : List Cond := [Cond.code yX5_readHeld cX5_readHeld 3 (some .boolean), Cond.methodLink RX5 158 yX3_addFixed, Cond.instanceMethod yX3_addFixed, Cond.selects RX3 yX3_addFixed yX3_addFixed, Cond.code yX3_addFixed cX3_addFixed 3 none, Cond.methodLink RX5 161 yX3_addNever, Cond.instanceMethod yX3_addNever, Cond.selects RX3 yX3_addNever yX3_addNever, Cond.code yX3_addNever cX3_addNever 3 none, Cond.methodLink RX5 79 yX5_readStop, Cond.instanceMethod yX5_readStop, Cond.selects RX5 yX5_readStop yX5_readStop, Cond.code yX5_readStop cX5_readStop 1 (some .boolean), Cond.methodLink RX11 129 yX3_take, Cond.instanceMethod yX3_take, Cond.selects RX3 yX3_take yX3_take, Cond.code yX3_take cX3_take 2 none, Cond.methodLink RX3 46 arraycopyName, Cond.native arraycopyName, Cond.static arraycopyName, Cond.initialized "java/lang/System", Cond.methodLink RX11 111 yX11_beginAnew, Cond.instanceMethod yX11_beginAnew, Cond.selects RX11 yX11_beginAnew yX11_beginAnew]
def wsX11_text_r8 : List Cond := [Cond.initialized RX11, Cond.code yX11_beginAnew cX11_beginAnew 1 none, Cond.fieldLink RX11 32 "BallPots" "ranks" "LBallPots$Ranks;", Cond.fieldLink RX11 41 "BallPots" "draws" "LBallPots$Draws;", Cond.fieldLink RX11 48 "BallPots" "stage" "LBallPots$Stage;", Cond.fieldLink RX11 57 "BallPots" "treeNow" "LBallPots$Tree;", Cond.fieldLink RX11 61 "BallPots" "treeInTurn" "LBallPots$Tree;", Cond.fieldLink RX11 78 "BallPots" "fromStart" "[LBallPots$Chances;", Cond.fieldLink RX11 93 "BallPots" "barTable" "LBallPots$BarTable;", Cond.fieldLink RX11 100 "BallPots" "swaps" "LBallPots$Swaps;", Cond.fieldLink RX11 104 "BallPots" "nearestOrder" "I", Cond.fieldLink RX11 108 "BallPots" "nearestArrangement" "I", Cond.methodLink RX11 136 yX4_set, Cond.instanceMethod yX4_set, Cond.selects RX4 yX4_set yX4_set, Cond.initialized RX4, Cond.code yX4_set cX4_set 3 none, Cond.fieldLink RX4 27 "BallPots$Ranks" "groups" "I", Cond.fieldLink RX4 31 "BallPots$Ranks" "many" "I", Cond.fieldLink RX4 18 "BallPots$Ranks" "having" "[I", Cond.fieldLink RX4 24 "BallPots$Ranks" "row" "[I", Cond.fieldLink RX4 47 "BallPots$Ranks" "everyRank" "I", Cond.methodLink RX4 34 yJ7_fill_53178, Cond.static yJ7_fill_53178]
def wsX11_text_r9 : List Cond := [Cond.initialized RJ7, Cond.code yJ7_fill_53178 cJ7_fill_53178 4 none, Cond.methodLink RX4 40 yX4_readRow, Cond.static yX4_readRow, Cond.code yX4_readRow cX4_readRow 5 (some .boolean), Cond.methodLink RX4 44 yX4_addRow, Cond.instanceMethod yX4_addRow, Cond.selects RX4 yX4_addRow yX4_addRow, Cond.code yX4_addRow cX4_addRow 3 none, Cond.fieldLink RX4 9 "BallPots$Ranks" "groupOf" "[I", Cond.fieldLink RX4 15 "BallPots$Ranks" "placeIn" "[I", Cond.methodLink RX4 50 yX4_setSwaps, Cond.instanceMethod yX4_setSwaps, Cond.selects RX4 yX4_setSwaps yX4_setSwaps, Cond.code yX4_setSwaps cX4_setSwaps 5 none, Cond.fieldLink RX4 21 "BallPots$Ranks" "swapped" "[I", Cond.fieldLink RX4 58 "BallPots$Ranks" "swapsAPot" "I", Cond.methodLink RX4 54 yX4_rankWithSwapped, Cond.instanceMethod yX4_rankWithSwapped, Cond.selects RX4 yX4_rankWithSwapped yX4_rankWithSwapped, Cond.code yX4_rankWithSwapped cX4_rankWithSwapped 8 (some .int), Cond.methodLink RX4 61 yX4_groupAt, Cond.instanceMethod yX4_groupAt, Cond.selects RX4 yX4_groupAt yX4_groupAt]
def wsX11_text_r10 : List Cond := [Cond.code yX4_groupAt cX4_groupAt 3 (some .int), Cond.methodLink RX4 65 yX4_only, Cond.static yX4_only, Cond.code yX4_only cX4_only 1 (some .int), Cond.methodLink RX4 69 yJ6_bitCount_0f7a4, Cond.static yJ6_bitCount_0f7a4, Cond.initialized RJ6, Cond.code yJ6_bitCount_0f7a4 cJ6_bitCount_0f7a4 1 (some .int), Cond.constant RJ6 265 (1431655765), Cond.constant RJ6 266 (858993459), Cond.constant RJ6 267 (252645135), Cond.methodLink RX11 139 yX2_renew, Cond.instanceMethod yX2_renew, Cond.selects RX2 yX2_renew yX2_renew, Cond.initialized RX2, Cond.code yX2_renew cX2_renew 2 none, Cond.fieldLink RX2 38 "BallPots$Draws" "total" "I", Cond.fieldLink RX2 30 "BallPots$Draws" "plan" "LBallPots$Plan;", Cond.fieldLink RX2 9 "BallPots$Draws" "step" "[I", Cond.fieldLink RX2 34 "BallPots$Draws" "ranks" "LBallPots$Ranks;", Cond.fieldLink RX2 15 "BallPots$Draws" "broken" "[I", Cond.arrayClass .int, Cond.fieldLink RX2 18 "BallPots$Draws" "lawfulCodes" "[I", Cond.methodLink RX2 52 yJ7_fill_fda19]
def wsX11_text_r11 : List Cond := [Cond.static yJ7_fill_fda19, Cond.code yJ7_fill_fda19 cJ7_fill_fda19 5 none, Cond.methodLink RJ7 13 yJ7_rangeCheck_23922, Cond.static yJ7_rangeCheck_23922, Cond.code yJ7_rangeCheck_23922 cJ7_rangeCheck_23922 3 none, Cond.classLink RJ7 68 RJx00060, Cond.instantiable RJx00060 6, Cond.initialized RJx00060, Cond.methodLink RX2 64 yX2_tellHeld, Cond.instanceMethod yX2_tellHeld, Cond.selects RX2 yX2_tellHeld yX2_tellHeld, Cond.code yX2_tellHeld cX2_tellHeld 7 none, Cond.fieldLink RX2 27 "BallPots$Draws" "held" "[I", Cond.methodLink RX2 84 yX4_groupAt, Cond.methodLink RX2 71 yX2_breakBar, Cond.instanceMethod yX2_breakBar, Cond.selects RX2 yX2_breakBar yX2_breakBar, Cond.code yX2_breakBar cX2_breakBar 8 none, Cond.constant RX2 91 (34952), Cond.methodLink RX2 88 yX2_rankIn, Cond.instanceMethod yX2_rankIn, Cond.selects RX2 yX2_rankIn yX2_rankIn, Cond.code yX2_rankIn cX2_rankIn 5 (some .int), Cond.methodLink RX2 75 yX2_listLawful]
def wsX11_text_r12 : List Cond := [Cond.instanceMethod yX2_listLawful, Cond.selects RX2 yX2_listLawful yX2_listLawful, Cond.code yX2_listLawful cX2_listLawful 2 none, Cond.fieldLink RX2 92 "BallPots$Draws" "lawfulOnes" "I", Cond.methodLink RX2 78 yX2_tellWithin, Cond.instanceMethod yX2_tellWithin, Cond.selects RX2 yX2_tellWithin yX2_tellWithin, Cond.code yX2_tellWithin cX2_tellWithin 2 none, Cond.fieldLink RX2 21 "BallPots$Draws" "within" "[I", Cond.methodLink RX2 95 yJ7_fill_53178, Cond.methodLink RX2 98 yX2_addUp, Cond.static yX2_addUp, Cond.code yX2_addUp cX2_addUp 5 none, Cond.methodLink RX11 142 yX8_putInTurn, Cond.instanceMethod yX8_putInTurn, Cond.selects RX8 yX8_putInTurn yX8_putInTurn, Cond.initialized RX8, Cond.code yX8_putInTurn cX8_putInTurn 1 none, Cond.fieldLink RX8 9 "BallPots$Stage" "potAt" "[I", Cond.methodLink RX8 38 arraycopyName, Cond.fieldLink RX8 15 "BallPots$Stage" "groupAt" "[I", Cond.methodLink RX8 44 yX8_empty, Cond.instanceMethod yX8_empty, Cond.selects RX8 yX8_empty yX8_empty]
def wsX11_text_r13 : List Cond := [Cond.code yX8_empty cX8_empty 1 none, Cond.fieldLink RX8 47 "BallPots$Stage" "out" "I", Cond.fieldLink RX8 18 "BallPots$Stage" "groupOf" "[I", Cond.methodLink RX8 51 yJ7_fill_53178, Cond.methodLink RX11 151 yX9_forget, Cond.instanceMethod yX9_forget, Cond.selects RX9 yX9_forget yX9_forget, Cond.initialized RX9, Cond.code yX9_forget cX9_forget 1 none, Cond.fieldLink RX9 18 "BallPots$Swaps" "done" "I", Cond.fieldLink RX9 33 "BallPots$Swaps" "partsFresh" "Z", Cond.methodLink RX11 154 yX11_startChanged, Cond.instanceMethod yX11_startChanged, Cond.selects RX11 yX11_startChanged yX11_startChanged, Cond.code yX11_startChanged cX11_startChanged 1 none, Cond.methodLink RX11 157 yX11_stageChanged, Cond.instanceMethod yX11_stageChanged, Cond.selects RX11 yX11_stageChanged yX11_stageChanged, Cond.code yX11_stageChanged cX11_stageChanged 2 none, Cond.fieldLink RX11 82 "BallPots" "fromNow" "[LBallPots$Chances;"]
def wsX11_text : List Cond := .code yX11_text cX11_text 3 (some .int) :: ((wsX11_text_r1 ++ (wsX11_text_r2 ++ (wsX11_text_r3 ++ (wsX11_text_r4 ++ (wsX11_text_r5 ++ (wsX11_text_r6 ++ (wsX11_text_r7 ++ (wsX11_text_r8 ++ (wsX11_text_r9 ++ (wsX11_text_r10 ++ (wsX11_text_r11 ++ (wsX11_text_r12 ++ wsX11_text_r13)))))))))))) ++ wsX110 ++ wsX50 ++ wsX30 ++ wsX100 ++ wsX10 ++ wsX00 ++ wsX40 ++ wsX20 ++ wsJx000600 ++ wsX80 ++ wsX90)
def wsX11_fault : List Cond := .code yX11_fault cX11_fault 2 (some .int) :: ([.fieldLink RX11 25 "BallPots" "reader" "LBallPots$Reader;"] ++ wsX110 ++ wsX50)
def wsX11_named : List Cond := .code yX11_named cX11_named 3 (some .int) :: ([.fieldLink RX11 16 "BallPots" "plan" "LBallPots$Plan;", .methodLink RX11 163 yX3_teamNamed, .instanceMethod yX3_teamNamed, .selects RX3 yX3_teamNamed yX3_teamNamed, .initialized RX3, .code yX3_teamNamed cX3_teamNamed 2 (some .int), .fieldLink RX3 9 "BallPots$Plan" "teamNames" "[I", .fieldLink RX3 34 "BallPots$Plan" "teams" "I", .methodLink RX3 52 yX3_find, .static yX3_find, .code yX3_find cX3_find 4 (some .int), .methodLink RX11 166 yX3_markNamed, .instanceMethod yX3_markNamed, .selects RX3 yX3_markNamed yX3_markNamed, .code yX3_markNamed cX3_markNamed 2 (some .int), .fieldLink RX3 18 "BallPots$Plan" "markNames" "[I", .fieldLink RX3 37 "BallPots$Plan" "marks" "I"] ++ wsX110 ++ wsX30)
def wsX11_lawful : List Cond := .code yX11_lawful cX11_lawful 1 (some .int) :: ([.fieldLink RX11 41 "BallPots" "draws" "LBallPots$Draws;"] ++ wsX110 ++ wsX20)
def wsX11_isBar : List Cond := .code yX11_isBar cX11_isBar 2 (some .boolean) :: ([.fieldLink RX11 16 "BallPots" "plan" "LBallPots$Plan;"] ++ wsX110 ++ wsX30)
def wsX11_without : List Cond := .code yX11_without cX11_without 2 (some .int) :: ([.fieldLink RX11 41 "BallPots" "draws" "LBallPots$Draws;", .methodLink RX11 172 yX11_isBar, .instanceMethod yX11_isBar, .selects RX11 yX11_isBar yX11_isBar, .initialized RX11, .code yX11_isBar cX11_isBar 2 (some .boolean), .fieldLink RX11 16 "BallPots" "plan" "LBallPots$Plan;"] ++ wsX110 ++ wsX20 ++ wsX30)
def wsX11_forbids : List Cond := .code yX11_forbids cX11_forbids 1 (some .int) :: ([.fieldLink RX11 41 "BallPots" "draws" "LBallPots$Draws;", .fieldLink RX11 16 "BallPots" "plan" "LBallPots$Plan;", .static yX2_fewest, .initialized RX2, .code yX2_fewest cX2_fewest 5 (some .int), .methodLink RX2 101 yJ6_bitCount_0f7a4, .static yJ6_bitCount_0f7a4, .initialized RJ6, .code yJ6_bitCount_0f7a4 cJ6_bitCount_0f7a4 1 (some .int), .constant RJ6 265 (1431655765), .constant RJ6 266 (858993459), .constant RJ6 267 (252645135)] ++ wsX110 ++ wsX20 ++ wsX30)
def wsX11_isTeam : List Cond := .code yX11_isTeam cX11_isTeam 2 (some .boolean) :: ([.fieldLink RX11 16 "BallPots" "plan" "LBallPots$Plan;"] ++ wsX110 ++ wsX30)
def wsX11_draw_r1 : List Cond := [Cond.fieldLink RX11 41 "BallPots" "draws" "LBallPots$Draws;", Cond.methodLink RX11 186 yX11_isTeam, Cond.instanceMethod yX11_isTeam, Cond.selects RX11 yX11_isTeam yX11_isTeam, Cond.initialized RX11, Cond.code yX11_isTeam cX11_isTeam 2 (some .boolean), Cond.fieldLink RX11 16 "BallPots" "plan" "LBallPots$Plan;", Cond.methodLink RX11 192 yX2_groupIn, Cond.instanceMethod yX2_groupIn, Cond.selects RX2 yX2_groupIn yX2_groupIn, Cond.initialized RX2, Cond.code yX2_groupIn cX2_groupIn 3 (some .int), Cond.fieldLink RX2 34 "BallPots$Draws" "ranks" "LBallPots$Ranks;", Cond.fieldLink RX2 30 "BallPots$Draws" "plan" "LBallPots$Plan;", Cond.methodLink RX2 115 yX3_potOf, Cond.instanceMethod yX3_potOf, Cond.selects RX3 yX3_potOf yX3_potOf, Cond.initialized RX3, Cond.code yX3_potOf cX3_potOf 2 (some .int), Cond.fieldLink RX3 27 "BallPots$Plan" "groups" "I", Cond.methodLink RX2 88 yX2_rankIn, Cond.instanceMethod yX2_rankIn, Cond.selects RX2 yX2_rankIn yX2_rankIn, Cond.code yX2_rankIn cX2_rankIn 5 (some .int)]
def wsX11_draw_r2 : List Cond := [Cond.fieldLink RX2 9 "BallPots$Draws" "step" "[I", Cond.methodLink RX2 118 yX3_placeOf, Cond.instanceMethod yX3_placeOf, Cond.selects RX3 yX3_placeOf yX3_placeOf, Cond.code yX3_placeOf cX3_placeOf 2 (some .int), Cond.methodLink RX2 84 yX4_groupAt, Cond.instanceMethod yX4_groupAt, Cond.selects RX4 yX4_groupAt yX4_groupAt, Cond.initialized RX4, Cond.code yX4_groupAt cX4_groupAt 3 (some .int), Cond.fieldLink RX4 9 "BallPots$Ranks" "groupOf" "[I"]
def wsX11_draw : List Cond := .code yX11_draw cX11_draw 3 (some .int) :: ((wsX11_draw_r1 ++ wsX11_draw_r2) ++ wsX110 ++ wsX20 ++ wsX30 ++ wsX40)
def wsX11_isCode : List Cond := .code yX11_isCode cX11_isCode 2 (some .boolean) :: ([.fieldLink RX11 41 "BallPots" "draws" "LBallPots$Draws;"] ++ wsX110 ++ wsX20)
def wsX11_judge : List Cond := .code yX11_judge cX11_judge 2 (some .int) :: ([.fieldLink RX11 41 "BallPots" "draws" "LBallPots$Draws;", .methodLink RX11 196 yX11_isCode, .instanceMethod yX11_isCode, .selects RX11 yX11_isCode yX11_isCode, .initialized RX11, .code yX11_isCode cX11_isCode 2 (some .boolean)] ++ wsX110 ++ wsX20)
def wsX11_readTurns : List Cond := .code yX11_readTurns cX11_readTurns 5 (some .boolean) :: ([])
def wsX11_order_r1 : List Cond := [Cond.fieldLink RX11 16 "BallPots" "plan" "LBallPots$Plan;", Cond.fieldLink RX11 48 "BallPots" "stage" "LBallPots$Stage;", Cond.fieldLink RX11 57 "BallPots" "treeNow" "LBallPots$Tree;", Cond.fieldLink RX11 108 "BallPots" "nearestArrangement" "I", Cond.methodLink RX11 214 yX11_readTurns, Cond.static yX11_readTurns, Cond.initialized RX11, Cond.code yX11_readTurns cX11_readTurns 5 (some .boolean), Cond.methodLink RX11 218 yX8_empty, Cond.instanceMethod yX8_empty, Cond.selects RX8 yX8_empty yX8_empty, Cond.initialized RX8, Cond.code yX8_empty cX8_empty 1 none, Cond.fieldLink RX8 47 "BallPots$Stage" "out" "I", Cond.fieldLink RX8 18 "BallPots$Stage" "groupOf" "[I", Cond.methodLink RX8 51 yJ7_fill_53178, Cond.static yJ7_fill_53178, Cond.initialized RJ7, Cond.code yJ7_fill_53178 cJ7_fill_53178 4 none, Cond.methodLink RX11 154 yX11_startChanged, Cond.instanceMethod yX11_startChanged, Cond.selects RX11 yX11_startChanged yX11_startChanged, Cond.code yX11_startChanged cX11_startChanged 1 none, Cond.fieldLink RX11 78 "BallPots" "fromStart" "[LBallPots$Chances;"]
def wsX11_order_r2 : List Cond := [Cond.methodLink RX11 157 yX11_stageChanged, Cond.instanceMethod yX11_stageChanged, Cond.selects RX11 yX11_stageChanged yX11_stageChanged, Cond.code yX11_stageChanged cX11_stageChanged 2 none, Cond.fieldLink RX11 82 "BallPots" "fromNow" "[LBallPots$Chances;"]
def wsX11_order : List Cond := .code yX11_order cX11_order 2 (some .boolean) :: ((wsX11_order_r1 ++ wsX11_order_r2) ++ wsX110 ++ wsX30 ++ wsX80 ++ wsX100 ++ wsX10)
def wsX11_arrange_r1 : List Cond := [Cond.fieldLink RX11 16 "BallPots" "plan" "LBallPots$Plan;", Cond.fieldLink RX11 48 "BallPots" "stage" "LBallPots$Stage;", Cond.fieldLink RX11 104 "BallPots" "nearestOrder" "I", Cond.methodLink RX11 214 yX11_readTurns, Cond.static yX11_readTurns, Cond.initialized RX11, Cond.code yX11_readTurns cX11_readTurns 5 (some .boolean), Cond.methodLink RX11 218 yX8_empty, Cond.instanceMethod yX8_empty, Cond.selects RX8 yX8_empty yX8_empty, Cond.initialized RX8, Cond.code yX8_empty cX8_empty 1 none, Cond.fieldLink RX8 47 "BallPots$Stage" "out" "I", Cond.fieldLink RX8 18 "BallPots$Stage" "groupOf" "[I", Cond.methodLink RX8 51 yJ7_fill_53178, Cond.static yJ7_fill_53178, Cond.initialized RJ7, Cond.code yJ7_fill_53178 cJ7_fill_53178 4 none, Cond.methodLink RX11 154 yX11_startChanged, Cond.instanceMethod yX11_startChanged, Cond.selects RX11 yX11_startChanged yX11_startChanged, Cond.code yX11_startChanged cX11_startChanged 1 none, Cond.fieldLink RX11 78 "BallPots" "fromStart" "[LBallPots$Chances;", Cond.methodLink RX11 157 yX11_stageChanged]
def wsX11_arrange_r2 : List Cond := [Cond.instanceMethod yX11_stageChanged, Cond.selects RX11 yX11_stageChanged yX11_stageChanged, Cond.code yX11_stageChanged cX11_stageChanged 2 none, Cond.fieldLink RX11 82 "BallPots" "fromNow" "[LBallPots$Chances;"]
def wsX11_arrange : List Cond := .code yX11_arrange cX11_arrange 2 (some .boolean) :: ((wsX11_arrange_r1 ++ wsX11_arrange_r2) ++ wsX110 ++ wsX30 ++ wsX80 ++ wsX10)
def wsX11_treeOfNow_r1 : List Cond := [Cond.fieldLink RX11 57 "BallPots" "treeNow" "LBallPots$Tree;", Cond.fieldLink RX11 48 "BallPots" "stage" "LBallPots$Stage;", Cond.methodLink RX11 224 yX10_build, Cond.instanceMethod yX10_build, Cond.selects RX10 yX10_build yX10_build, Cond.initialized RX10, Cond.code yX10_build cX10_build 5 none, Cond.fieldLink RX10 18 "BallPots$Tree" "potAt" "[I", Cond.methodLink RX10 25 arraycopyName, Cond.native arraycopyName, Cond.static arraycopyName, Cond.initialized "java/lang/System", Cond.fieldLink RX10 21 "BallPots$Tree" "draws" "LBallPots$Draws;", Cond.fieldLink RX10 15 "BallPots$Tree" "from" "[I", Cond.fieldLink RX10 59 "BallPots$Tree" "fresh" "Z", Cond.methodLink RX10 52 yX10_fillLast, Cond.instanceMethod yX10_fillLast, Cond.selects RX10 yX10_fillLast yX10_fillLast, Cond.code yX10_fillLast cX10_fillLast 8 none, Cond.fieldLink RX10 11 "BallPots$Tree" "sets" "[I", Cond.methodLink RX10 66 yX10_codeOf, Cond.instanceMethod yX10_codeOf, Cond.selects RX10 yX10_codeOf yX10_codeOf, Cond.code yX10_codeOf cX10_codeOf 7 (some .int)]
def wsX11_treeOfNow_r2 : List Cond := [Cond.methodLink RX10 55 yX10_fillFromNext, Cond.instanceMethod yX10_fillFromNext, Cond.selects RX10 yX10_fillFromNext yX10_fillFromNext, Cond.code yX10_fillFromNext cX10_fillFromNext 7 none]
def wsX11_treeOfNow : List Cond := .code yX11_treeOfNow cX11_treeOfNow 1 (some (.object "BallPots$Tree")) :: ((wsX11_treeOfNow_r1 ++ wsX11_treeOfNow_r2) ++ wsX110 ++ wsX100 ++ wsX80 ++ wsX20 ++ wsX30 ++ wsX40)
theorem dX2_renew_0 : decode cX2_renew 0 = .ok (.aload_n 0, 1) := by decide +kernel
theorem dX2_renew_1 : decode cX2_renew 1 = .ok (.iconst 1, 1) := by decide +kernel
theorem dX2_renew_2 : decode cX2_renew 2 = .ok (.putfield 38, 3) := by decide +kernel
theorem dX2_renew_5 : decode cX2_renew 5 = .ok (.aload_n 0, 1) := by decide +kernel
theorem dX2_renew_6 : decode cX2_renew 6 = .ok (.getfield 30, 3) := by decide +kernel
theorem dX2_renew_9 : decode cX2_renew 9 = .ok (.getfield 42, 3) := by decide +kernel
theorem dX2_renew_12 : decode cX2_renew 12 = .ok (.iconst 1, 1) := by decide +kernel
theorem dX2_renew_13 : decode cX2_renew 13 = .ok (.isub, 1) := by decide +kernel
theorem dX2_renew_14 : decode cX2_renew 14 = .ok (.istore_n 1, 1) := by decide +kernel
theorem dX2_renew_15 : decode cX2_renew 15 = .ok (.iload_n 1, 1) := by decide +kernel
theorem dX2_renew_16 : decode cX2_renew 16 = .ok (.ifCond .lt 35, 3) := by decide +kernel
theorem dX2_renew_19 : decode cX2_renew 19 = .ok (.aload_n 0, 1) := by decide +kernel
theorem dX2_renew_20 : decode cX2_renew 20 = .ok (.getfield 9, 3) := by decide +kernel
theorem dX2_renew_23 : decode cX2_renew 23 = .ok (.iload_n 1, 1) := by decide +kernel
theorem dX2_renew_24 : decode cX2_renew 24 = .ok (.aload_n 0, 1) := by decide +kernel
theorem dX2_renew_25 : decode cX2_renew 25 = .ok (.getfield 38, 3) := by decide +kernel
theorem dX2_renew_28 : decode cX2_renew 28 = .ok (.iastore, 1) := by decide +kernel
theorem dX2_renew_29 : decode cX2_renew 29 = .ok (.aload_n 0, 1) := by decide +kernel
theorem dX2_renew_30 : decode cX2_renew 30 = .ok (.dup, 1) := by decide +kernel
theorem dX2_renew_31 : decode cX2_renew 31 = .ok (.getfield 38, 3) := by decide +kernel
theorem dX2_renew_34 : decode cX2_renew 34 = .ok (.aload_n 0, 1) := by decide +kernel
theorem dX2_renew_35 : decode cX2_renew 35 = .ok (.getfield 34, 3) := by decide +kernel
theorem dX2_renew_38 : decode cX2_renew 38 = .ok (.getfield 47, 3) := by decide +kernel
theorem dX2_renew_41 : decode cX2_renew 41 = .ok (.imul, 1) := by decide +kernel
theorem dX2_renew_42 : decode cX2_renew 42 = .ok (.putfield 38, 3) := by decide +kernel
theorem dX2_renew_45 : decode cX2_renew 45 = .ok (.iinc 1 (-1), 3) := by decide +kernel
theorem dX2_renew_48 : decode cX2_renew 48 = .ok (.goto (-33), 3) := by decide +kernel
theorem dX2_renew_51 : decode cX2_renew 51 = .ok (.aload_n 0, 1) := by decide +kernel
theorem dX2_renew_52 : decode cX2_renew 52 = .ok (.getfield 15, 3) := by decide +kernel
theorem dX2_renew_55 : decode cX2_renew 55 = .ok (.arraylength, 1) := by decide +kernel
theorem dX2_renew_56 : decode cX2_renew 56 = .ok (.aload_n 0, 1) := by decide +kernel
theorem dX2_renew_57 : decode cX2_renew 57 = .ok (.getfield 38, 3) := by decide +kernel
theorem dX2_renew_60 : decode cX2_renew 60 = .ok (.if_icmp .ge 23, 3) := by decide +kernel
theorem dX2_renew_63 : decode cX2_renew 63 = .ok (.aload_n 0, 1) := by decide +kernel
theorem dX2_renew_64 : decode cX2_renew 64 = .ok (.aload_n 0, 1) := by decide +kernel
theorem dX2_renew_65 : decode cX2_renew 65 = .ok (.getfield 38, 3) := by decide +kernel
theorem dX2_renew_68 : decode cX2_renew 68 = .ok (.newarray .int, 2) := by decide +kernel
theorem dX2_renew_70 : decode cX2_renew 70 = .ok (.putfield 15, 3) := by decide +kernel
theorem dX2_renew_73 : decode cX2_renew 73 = .ok (.aload_n 0, 1) := by decide +kernel
theorem dX2_renew_74 : decode cX2_renew 74 = .ok (.aload_n 0, 1) := by decide +kernel
theorem dX2_renew_75 : decode cX2_renew 75 = .ok (.getfield 38, 3) := by decide +kernel
theorem dX2_renew_78 : decode cX2_renew 78 = .ok (.newarray .int, 2) := by decide +kernel
theorem dX2_renew_80 : decode cX2_renew 80 = .ok (.putfield 18, 3) := by decide +kernel
theorem dX2_renew_83 : decode cX2_renew 83 = .ok (.aload_n 0, 1) := by decide +kernel
theorem dX2_renew_84 : decode cX2_renew 84 = .ok (.getfield 15, 3) := by decide +kernel
theorem dX2_renew_87 : decode cX2_renew 87 = .ok (.iconst 0, 1) := by decide +kernel
theorem dX2_renew_88 : decode cX2_renew 88 = .ok (.aload_n 0, 1) := by decide +kernel
theorem dX2_renew_89 : decode cX2_renew 89 = .ok (.getfield 38, 3) := by decide +kernel
theorem dX2_renew_92 : decode cX2_renew 92 = .ok (.iconst 0, 1) := by decide +kernel
theorem dX2_renew_93 : decode cX2_renew 93 = .ok (.invokestatic 52, 3) := by decide +kernel
theorem dX2_renew_96 : decode cX2_renew 96 = .ok (.aload_n 0, 1) := by decide +kernel
theorem dX2_renew_97 : decode cX2_renew 97 = .ok (.getfield 30, 3) := by decide +kernel
theorem dX2_renew_100 : decode cX2_renew 100 = .ok (.getfield 42, 3) := by decide +kernel
theorem dX2_renew_103 : decode cX2_renew 103 = .ok (.ifCond .le 55, 3) := by decide +kernel
theorem dX2_renew_106 : decode cX2_renew 106 = .ok (.iconst 0, 1) := by decide +kernel
theorem dX2_renew_107 : decode cX2_renew 107 = .ok (.istore_n 1, 1) := by decide +kernel
theorem dX2_renew_108 : decode cX2_renew 108 = .ok (.iload_n 1, 1) := by decide +kernel
theorem dX2_renew_109 : decode cX2_renew 109 = .ok (.aload_n 0, 1) := by decide +kernel
theorem dX2_renew_110 : decode cX2_renew 110 = .ok (.getfield 30, 3) := by decide +kernel
theorem dX2_renew_113 : decode cX2_renew 113 = .ok (.getfield 58, 3) := by decide +kernel
theorem dX2_renew_116 : decode cX2_renew 116 = .ok (.if_icmp .ge 42, 3) := by decide +kernel
theorem dX2_renew_119 : decode cX2_renew 119 = .ok (.aload_n 0, 1) := by decide +kernel
theorem dX2_renew_120 : decode cX2_renew 120 = .ok (.aload_n 0, 1) := by decide +kernel
theorem dX2_renew_121 : decode cX2_renew 121 = .ok (.getfield 30, 3) := by decide +kernel
theorem dX2_renew_124 : decode cX2_renew 124 = .ok (.getfield 61, 3) := by decide +kernel
theorem dX2_renew_127 : decode cX2_renew 127 = .ok (.iload_n 1, 1) := by decide +kernel
theorem dX2_renew_128 : decode cX2_renew 128 = .ok (.iaload, 1) := by decide +kernel
theorem dX2_renew_129 : decode cX2_renew 129 = .ok (.invokevirtual 64, 3) := by decide +kernel
theorem dX2_renew_132 : decode cX2_renew 132 = .ok (.aload_n 0, 1) := by decide +kernel
theorem dX2_renew_133 : decode cX2_renew 133 = .ok (.iconst 1, 1) := by decide +kernel
theorem dX2_renew_134 : decode cX2_renew 134 = .ok (.iload_n 1, 1) := by decide +kernel
theorem dX2_renew_135 : decode cX2_renew 135 = .ok (.ishl, 1) := by decide +kernel
theorem dX2_renew_136 : decode cX2_renew 136 = .ok (.sipush 30583, 3) := by decide +kernel
theorem dX2_renew_139 : decode cX2_renew 139 = .ok (.aload_n 0, 1) := by decide +kernel
theorem dX2_renew_140 : decode cX2_renew 140 = .ok (.getfield 30, 3) := by decide +kernel
theorem dX2_renew_143 : decode cX2_renew 143 = .ok (.getfield 68, 3) := by decide +kernel
theorem dX2_renew_146 : decode cX2_renew 146 = .ok (.iload_n 1, 1) := by decide +kernel
theorem dX2_renew_147 : decode cX2_renew 147 = .ok (.iaload, 1) := by decide +kernel
theorem dX2_renew_148 : decode cX2_renew 148 = .ok (.isub, 1) := by decide +kernel
theorem dX2_renew_149 : decode cX2_renew 149 = .ok (.invokevirtual 71, 3) := by decide +kernel
theorem dX2_renew_152 : decode cX2_renew 152 = .ok (.iinc 1 1, 3) := by decide +kernel
theorem dX2_renew_155 : decode cX2_renew 155 = .ok (.goto (-47), 3) := by decide +kernel
theorem dX2_renew_158 : decode cX2_renew 158 = .ok (.aload_n 0, 1) := by decide +kernel
theorem dX2_renew_159 : decode cX2_renew 159 = .ok (.invokevirtual 75, 3) := by decide +kernel
theorem dX2_renew_162 : decode cX2_renew 162 = .ok (.aload_n 0, 1) := by decide +kernel
theorem dX2_renew_163 : decode cX2_renew 163 = .ok (.invokevirtual 78, 3) := by decide +kernel
theorem dX2_renew_166 : decode cX2_renew 166 = .ok (.return_, 1) := by decide +kernel
theorem dX2_tellHeld_0 : decode cX2_tellHeld 0 = .ok (.iconst 0, 1) := by decide +kernel
theorem dX2_tellHeld_1 : decode cX2_tellHeld 1 = .ok (.istore_n 2, 1) := by decide +kernel
theorem dX2_tellHeld_2 : decode cX2_tellHeld 2 = .ok (.iload_n 2, 1) := by decide +kernel
theorem dX2_tellHeld_3 : decode cX2_tellHeld 3 = .ok (.aload_n 0, 1) := by decide +kernel
theorem dX2_tellHeld_4 : decode cX2_tellHeld 4 = .ok (.getfield 30, 3) := by decide +kernel
theorem dX2_tellHeld_7 : decode cX2_tellHeld 7 = .ok (.getfield 42, 3) := by decide +kernel
theorem dX2_tellHeld_10 : decode cX2_tellHeld 10 = .ok (.if_icmp .ge 105, 3) := by decide +kernel
theorem dX2_tellHeld_13 : decode cX2_tellHeld 13 = .ok (.iload_n 1, 1) := by decide +kernel
theorem dX2_tellHeld_14 : decode cX2_tellHeld 14 = .ok (.iload_n 2, 1) := by decide +kernel
theorem dX2_tellHeld_15 : decode cX2_tellHeld 15 = .ok (.aload_n 0, 1) := by decide +kernel
theorem dX2_tellHeld_16 : decode cX2_tellHeld 16 = .ok (.getfield 30, 3) := by decide +kernel
theorem dX2_tellHeld_19 : decode cX2_tellHeld 19 = .ok (.getfield 81, 3) := by decide +kernel
theorem dX2_tellHeld_22 : decode cX2_tellHeld 22 = .ok (.imul, 1) := by decide +kernel
theorem dX2_tellHeld_23 : decode cX2_tellHeld 23 = .ok (.iushr, 1) := by decide +kernel
theorem dX2_tellHeld_24 : decode cX2_tellHeld 24 = .ok (.istore_n 3, 1) := by decide +kernel
theorem dX2_tellHeld_25 : decode cX2_tellHeld 25 = .ok (.iconst 0, 1) := by decide +kernel
theorem dX2_tellHeld_26 : decode cX2_tellHeld 26 = .ok (.istore 4, 2) := by decide +kernel
theorem dX2_tellHeld_28 : decode cX2_tellHeld 28 = .ok (.iload 4, 2) := by decide +kernel
theorem dX2_tellHeld_30 : decode cX2_tellHeld 30 = .ok (.aload_n 0, 1) := by decide +kernel
theorem dX2_tellHeld_31 : decode cX2_tellHeld 31 = .ok (.getfield 34, 3) := by decide +kernel
theorem dX2_tellHeld_34 : decode cX2_tellHeld 34 = .ok (.getfield 47, 3) := by decide +kernel
theorem dX2_tellHeld_37 : decode cX2_tellHeld 37 = .ok (.if_icmp .ge 72, 3) := by decide +kernel
theorem dX2_tellHeld_40 : decode cX2_tellHeld 40 = .ok (.iconst 0, 1) := by decide +kernel
theorem dX2_tellHeld_41 : decode cX2_tellHeld 41 = .ok (.istore 5, 2) := by decide +kernel
theorem dX2_tellHeld_43 : decode cX2_tellHeld 43 = .ok (.iconst 0, 1) := by decide +kernel
theorem dX2_tellHeld_44 : decode cX2_tellHeld 44 = .ok (.istore 6, 2) := by decide +kernel
theorem dX2_tellHeld_46 : decode cX2_tellHeld 46 = .ok (.iload 6, 2) := by decide +kernel
theorem dX2_tellHeld_48 : decode cX2_tellHeld 48 = .ok (.aload_n 0, 1) := by decide +kernel
theorem dX2_tellHeld_49 : decode cX2_tellHeld 49 = .ok (.getfield 30, 3) := by decide +kernel
theorem dX2_tellHeld_52 : decode cX2_tellHeld 52 = .ok (.getfield 81, 3) := by decide +kernel
theorem dX2_tellHeld_55 : decode cX2_tellHeld 55 = .ok (.if_icmp .ge 34, 3) := by decide +kernel
theorem dX2_tellHeld_58 : decode cX2_tellHeld 58 = .ok (.iload 5, 2) := by decide +kernel
theorem dX2_tellHeld_60 : decode cX2_tellHeld 60 = .ok (.iload_n 3, 1) := by decide +kernel
theorem dX2_tellHeld_61 : decode cX2_tellHeld 61 = .ok (.iload 6, 2) := by decide +kernel
theorem dX2_tellHeld_63 : decode cX2_tellHeld 63 = .ok (.iushr, 1) := by decide +kernel
theorem dX2_tellHeld_64 : decode cX2_tellHeld 64 = .ok (.iconst 1, 1) := by decide +kernel
theorem dX2_tellHeld_65 : decode cX2_tellHeld 65 = .ok (.iand, 1) := by decide +kernel
theorem dX2_tellHeld_66 : decode cX2_tellHeld 66 = .ok (.iconst 4, 1) := by decide +kernel
theorem dX2_tellHeld_67 : decode cX2_tellHeld 67 = .ok (.aload_n 0, 1) := by decide +kernel
theorem dX2_tellHeld_68 : decode cX2_tellHeld 68 = .ok (.getfield 34, 3) := by decide +kernel
theorem dX2_tellHeld_71 : decode cX2_tellHeld 71 = .ok (.iload 4, 2) := by decide +kernel
theorem dX2_tellHeld_73 : decode cX2_tellHeld 73 = .ok (.iload 6, 2) := by decide +kernel
theorem dX2_tellHeld_75 : decode cX2_tellHeld 75 = .ok (.invokevirtual 84, 3) := by decide +kernel
theorem dX2_tellHeld_78 : decode cX2_tellHeld 78 = .ok (.imul, 1) := by decide +kernel
theorem dX2_tellHeld_79 : decode cX2_tellHeld 79 = .ok (.ishl, 1) := by decide +kernel
theorem dX2_tellHeld_80 : decode cX2_tellHeld 80 = .ok (.iadd, 1) := by decide +kernel
theorem dX2_tellHeld_81 : decode cX2_tellHeld 81 = .ok (.istore 5, 2) := by decide +kernel
theorem dX2_tellHeld_83 : decode cX2_tellHeld 83 = .ok (.iinc 6 1, 3) := by decide +kernel
theorem dX2_tellHeld_86 : decode cX2_tellHeld 86 = .ok (.goto (-40), 3) := by decide +kernel
theorem dX2_tellHeld_89 : decode cX2_tellHeld 89 = .ok (.aload_n 0, 1) := by decide +kernel
theorem dX2_tellHeld_90 : decode cX2_tellHeld 90 = .ok (.getfield 27, 3) := by decide +kernel
theorem dX2_tellHeld_93 : decode cX2_tellHeld 93 = .ok (.iload_n 2, 1) := by decide +kernel
theorem dX2_tellHeld_94 : decode cX2_tellHeld 94 = .ok (.bipush 24, 2) := by decide +kernel
theorem dX2_tellHeld_96 : decode cX2_tellHeld 96 = .ok (.imul, 1) := by decide +kernel
theorem dX2_tellHeld_97 : decode cX2_tellHeld 97 = .ok (.iload 4, 2) := by decide +kernel
theorem dX2_tellHeld_99 : decode cX2_tellHeld 99 = .ok (.iadd, 1) := by decide +kernel
theorem dX2_tellHeld_100 : decode cX2_tellHeld 100 = .ok (.iload 5, 2) := by decide +kernel
theorem dX2_tellHeld_102 : decode cX2_tellHeld 102 = .ok (.iastore, 1) := by decide +kernel
theorem dX2_tellHeld_103 : decode cX2_tellHeld 103 = .ok (.iinc 4 1, 3) := by decide +kernel
theorem dX2_tellHeld_106 : decode cX2_tellHeld 106 = .ok (.goto (-78), 3) := by decide +kernel
theorem dX2_tellHeld_109 : decode cX2_tellHeld 109 = .ok (.iinc 2 1, 3) := by decide +kernel
theorem dX2_tellHeld_112 : decode cX2_tellHeld 112 = .ok (.goto (-110), 3) := by decide +kernel
theorem dX2_tellHeld_115 : decode cX2_tellHeld 115 = .ok (.return_, 1) := by decide +kernel
theorem dX2_breakBar_0 : decode cX2_breakBar 0 = .ok (.aload_n 0, 1) := by decide +kernel
theorem dX2_breakBar_1 : decode cX2_breakBar 1 = .ok (.getfield 30, 3) := by decide +kernel
theorem dX2_breakBar_4 : decode cX2_breakBar 4 = .ok (.getfield 42, 3) := by decide +kernel
theorem dX2_breakBar_7 : decode cX2_breakBar 7 = .ok (.iconst 1, 1) := by decide +kernel
theorem dX2_breakBar_8 : decode cX2_breakBar 8 = .ok (.isub, 1) := by decide +kernel
theorem dX2_breakBar_9 : decode cX2_breakBar 9 = .ok (.bipush 24, 2) := by decide +kernel
theorem dX2_breakBar_11 : decode cX2_breakBar 11 = .ok (.imul, 1) := by decide +kernel
theorem dX2_breakBar_12 : decode cX2_breakBar 12 = .ok (.istore_n 3, 1) := by decide +kernel
theorem dX2_breakBar_13 : decode cX2_breakBar 13 = .ok (.aload_n 0, 1) := by decide +kernel
theorem dX2_breakBar_14 : decode cX2_breakBar 14 = .ok (.getfield 34, 3) := by decide +kernel
theorem dX2_breakBar_17 : decode cX2_breakBar 17 = .ok (.getfield 47, 3) := by decide +kernel
theorem dX2_breakBar_20 : decode cX2_breakBar 20 = .ok (.istore 4, 2) := by decide +kernel
theorem dX2_breakBar_22 : decode cX2_breakBar 22 = .ok (.iconst 0, 1) := by decide +kernel
theorem dX2_breakBar_23 : decode cX2_breakBar 23 = .ok (.istore 5, 2) := by decide +kernel
theorem dX2_breakBar_25 : decode cX2_breakBar 25 = .ok (.iload 5, 2) := by decide +kernel
theorem dX2_breakBar_27 : decode cX2_breakBar 27 = .ok (.aload_n 0, 1) := by decide +kernel
theorem dX2_breakBar_28 : decode cX2_breakBar 28 = .ok (.getfield 38, 3) := by decide +kernel
theorem dX2_breakBar_31 : decode cX2_breakBar 31 = .ok (.if_icmp .ge 115, 3) := by decide +kernel
theorem dX2_breakBar_34 : decode cX2_breakBar 34 = .ok (.iload 4, 2) := by decide +kernel
theorem dX2_breakBar_36 : decode cX2_breakBar 36 = .ok (.ifCond .le 110, 3) := by decide +kernel
theorem dX2_breakBar_39 : decode cX2_breakBar 39 = .ok (.iload_n 2, 1) := by decide +kernel
theorem dX2_breakBar_40 : decode cX2_breakBar 40 = .ok (.istore 6, 2) := by decide +kernel
theorem dX2_breakBar_42 : decode cX2_breakBar 42 = .ok (.aload_n 0, 1) := by decide +kernel
theorem dX2_breakBar_43 : decode cX2_breakBar 43 = .ok (.getfield 30, 3) := by decide +kernel
theorem dX2_breakBar_46 : decode cX2_breakBar 46 = .ok (.getfield 42, 3) := by decide +kernel
theorem dX2_breakBar_49 : decode cX2_breakBar 49 = .ok (.iconst 2, 1) := by decide +kernel
theorem dX2_breakBar_50 : decode cX2_breakBar 50 = .ok (.isub, 1) := by decide +kernel
theorem dX2_breakBar_51 : decode cX2_breakBar 51 = .ok (.istore 7, 2) := by decide +kernel
theorem dX2_breakBar_53 : decode cX2_breakBar 53 = .ok (.iload 7, 2) := by decide +kernel
theorem dX2_breakBar_55 : decode cX2_breakBar 55 = .ok (.ifCond .lt 33, 3) := by decide +kernel
theorem dX2_breakBar_58 : decode cX2_breakBar 58 = .ok (.iload 6, 2) := by decide +kernel
theorem dX2_breakBar_60 : decode cX2_breakBar 60 = .ok (.aload_n 0, 1) := by decide +kernel
theorem dX2_breakBar_61 : decode cX2_breakBar 61 = .ok (.getfield 27, 3) := by decide +kernel
theorem dX2_breakBar_64 : decode cX2_breakBar 64 = .ok (.iload 7, 2) := by decide +kernel
theorem dX2_breakBar_66 : decode cX2_breakBar 66 = .ok (.bipush 24, 2) := by decide +kernel
theorem dX2_breakBar_68 : decode cX2_breakBar 68 = .ok (.imul, 1) := by decide +kernel
theorem dX2_breakBar_69 : decode cX2_breakBar 69 = .ok (.aload_n 0, 1) := by decide +kernel
theorem dX2_breakBar_70 : decode cX2_breakBar 70 = .ok (.iload 5, 2) := by decide +kernel
theorem dX2_breakBar_72 : decode cX2_breakBar 72 = .ok (.iload 7, 2) := by decide +kernel
theorem dX2_breakBar_74 : decode cX2_breakBar 74 = .ok (.invokevirtual 88, 3) := by decide +kernel
theorem dX2_breakBar_77 : decode cX2_breakBar 77 = .ok (.iadd, 1) := by decide +kernel
theorem dX2_breakBar_78 : decode cX2_breakBar 78 = .ok (.iaload, 1) := by decide +kernel
theorem dX2_breakBar_79 : decode cX2_breakBar 79 = .ok (.iadd, 1) := by decide +kernel
theorem dX2_breakBar_80 : decode cX2_breakBar 80 = .ok (.istore 6, 2) := by decide +kernel
theorem dX2_breakBar_82 : decode cX2_breakBar 82 = .ok (.iinc 7 (-1), 3) := by decide +kernel
theorem dX2_breakBar_85 : decode cX2_breakBar 85 = .ok (.goto (-32), 3) := by decide +kernel
theorem dX2_breakBar_88 : decode cX2_breakBar 88 = .ok (.iconst 0, 1) := by decide +kernel
theorem dX2_breakBar_89 : decode cX2_breakBar 89 = .ok (.istore 7, 2) := by decide +kernel
theorem dX2_breakBar_91 : decode cX2_breakBar 91 = .ok (.iload 7, 2) := by decide +kernel
theorem dX2_breakBar_93 : decode cX2_breakBar 93 = .ok (.iload 4, 2) := by decide +kernel
theorem dX2_breakBar_95 : decode cX2_breakBar 95 = .ok (.if_icmp .ge 41, 3) := by decide +kernel
theorem dX2_breakBar_98 : decode cX2_breakBar 98 = .ok (.iload 6, 2) := by decide +kernel
theorem dX2_breakBar_100 : decode cX2_breakBar 100 = .ok (.aload_n 0, 1) := by decide +kernel
theorem dX2_breakBar_101 : decode cX2_breakBar 101 = .ok (.getfield 27, 3) := by decide +kernel
theorem dX2_breakBar_104 : decode cX2_breakBar 104 = .ok (.iload_n 3, 1) := by decide +kernel
theorem dX2_breakBar_105 : decode cX2_breakBar 105 = .ok (.iload 7, 2) := by decide +kernel
theorem dX2_breakBar_107 : decode cX2_breakBar 107 = .ok (.iadd, 1) := by decide +kernel
theorem dX2_breakBar_108 : decode cX2_breakBar 108 = .ok (.iaload, 1) := by decide +kernel
theorem dX2_breakBar_109 : decode cX2_breakBar 109 = .ok (.iadd, 1) := by decide +kernel
theorem dX2_breakBar_110 : decode cX2_breakBar 110 = .ok (.ldc 91, 2) := by decide +kernel
theorem dX2_breakBar_112 : decode cX2_breakBar 112 = .ok (.iand, 1) := by decide +kernel
theorem dX2_breakBar_113 : decode cX2_breakBar 113 = .ok (.ifCond .eq 17, 3) := by decide +kernel
theorem dX2_breakBar_116 : decode cX2_breakBar 116 = .ok (.aload_n 0, 1) := by decide +kernel
theorem dX2_breakBar_117 : decode cX2_breakBar 117 = .ok (.getfield 15, 3) := by decide +kernel
theorem dX2_breakBar_120 : decode cX2_breakBar 120 = .ok (.iload 5, 2) := by decide +kernel
theorem dX2_breakBar_122 : decode cX2_breakBar 122 = .ok (.iload 7, 2) := by decide +kernel
theorem dX2_breakBar_124 : decode cX2_breakBar 124 = .ok (.iadd, 1) := by decide +kernel
theorem dX2_breakBar_125 : decode cX2_breakBar 125 = .ok (.dup2, 1) := by decide +kernel
theorem dX2_breakBar_126 : decode cX2_breakBar 126 = .ok (.iaload, 1) := by decide +kernel
theorem dX2_breakBar_127 : decode cX2_breakBar 127 = .ok (.iload_n 1, 1) := by decide +kernel
theorem dX2_breakBar_128 : decode cX2_breakBar 128 = .ok (.ior, 1) := by decide +kernel
theorem dX2_breakBar_129 : decode cX2_breakBar 129 = .ok (.iastore, 1) := by decide +kernel
theorem dX2_breakBar_130 : decode cX2_breakBar 130 = .ok (.iinc 7 1, 3) := by decide +kernel
theorem dX2_breakBar_133 : decode cX2_breakBar 133 = .ok (.goto (-42), 3) := by decide +kernel
theorem dX2_breakBar_136 : decode cX2_breakBar 136 = .ok (.iload 5, 2) := by decide +kernel
theorem dX2_breakBar_138 : decode cX2_breakBar 138 = .ok (.iload 4, 2) := by decide +kernel
theorem dX2_breakBar_140 : decode cX2_breakBar 140 = .ok (.iadd, 1) := by decide +kernel
theorem dX2_breakBar_141 : decode cX2_breakBar 141 = .ok (.istore 5, 2) := by decide +kernel
theorem dX2_breakBar_143 : decode cX2_breakBar 143 = .ok (.goto (-118), 3) := by decide +kernel
theorem dX2_breakBar_146 : decode cX2_breakBar 146 = .ok (.return_, 1) := by decide +kernel
theorem dX2_listLawful_0 : decode cX2_listLawful 0 = .ok (.aload_n 0, 1) := by decide +kernel
theorem dX2_listLawful_1 : decode cX2_listLawful 1 = .ok (.iconst 0, 1) := by decide +kernel
theorem dX2_listLawful_2 : decode cX2_listLawful 2 = .ok (.putfield 92, 3) := by decide +kernel
theorem dX2_listLawful_5 : decode cX2_listLawful 5 = .ok (.iconst 0, 1) := by decide +kernel
theorem dX2_listLawful_6 : decode cX2_listLawful 6 = .ok (.istore_n 1, 1) := by decide +kernel
theorem dX2_listLawful_7 : decode cX2_listLawful 7 = .ok (.iload_n 1, 1) := by decide +kernel
theorem dX2_listLawful_8 : decode cX2_listLawful 8 = .ok (.aload_n 0, 1) := by decide +kernel
theorem dX2_listLawful_9 : decode cX2_listLawful 9 = .ok (.getfield 38, 3) := by decide +kernel
theorem dX2_listLawful_12 : decode cX2_listLawful 12 = .ok (.if_icmp .ge 38, 3) := by decide +kernel
theorem dX2_listLawful_15 : decode cX2_listLawful 15 = .ok (.aload_n 0, 1) := by decide +kernel
theorem dX2_listLawful_16 : decode cX2_listLawful 16 = .ok (.getfield 15, 3) := by decide +kernel
theorem dX2_listLawful_19 : decode cX2_listLawful 19 = .ok (.iload_n 1, 1) := by decide +kernel
theorem dX2_listLawful_20 : decode cX2_listLawful 20 = .ok (.iaload, 1) := by decide +kernel
theorem dX2_listLawful_21 : decode cX2_listLawful 21 = .ok (.ifCond .ne 23, 3) := by decide +kernel
theorem dX2_listLawful_24 : decode cX2_listLawful 24 = .ok (.aload_n 0, 1) := by decide +kernel
theorem dX2_listLawful_25 : decode cX2_listLawful 25 = .ok (.getfield 18, 3) := by decide +kernel
theorem dX2_listLawful_28 : decode cX2_listLawful 28 = .ok (.aload_n 0, 1) := by decide +kernel
theorem dX2_listLawful_29 : decode cX2_listLawful 29 = .ok (.getfield 92, 3) := by decide +kernel
theorem dX2_listLawful_32 : decode cX2_listLawful 32 = .ok (.iload_n 1, 1) := by decide +kernel
theorem dX2_listLawful_33 : decode cX2_listLawful 33 = .ok (.iastore, 1) := by decide +kernel
theorem dX2_listLawful_34 : decode cX2_listLawful 34 = .ok (.aload_n 0, 1) := by decide +kernel
theorem dX2_listLawful_35 : decode cX2_listLawful 35 = .ok (.dup, 1) := by decide +kernel
theorem dX2_listLawful_36 : decode cX2_listLawful 36 = .ok (.getfield 92, 3) := by decide +kernel
theorem dX2_listLawful_39 : decode cX2_listLawful 39 = .ok (.iconst 1, 1) := by decide +kernel
theorem dX2_listLawful_40 : decode cX2_listLawful 40 = .ok (.iadd, 1) := by decide +kernel
theorem dX2_listLawful_41 : decode cX2_listLawful 41 = .ok (.putfield 92, 3) := by decide +kernel
theorem dX2_listLawful_44 : decode cX2_listLawful 44 = .ok (.iinc 1 1, 3) := by decide +kernel
theorem dX2_listLawful_47 : decode cX2_listLawful 47 = .ok (.goto (-40), 3) := by decide +kernel
theorem dX2_listLawful_50 : decode cX2_listLawful 50 = .ok (.return_, 1) := by decide +kernel
theorem dX2_tellWithin_0 : decode cX2_tellWithin 0 = .ok (.aload_n 0, 1) := by decide +kernel
theorem dX2_tellWithin_1 : decode cX2_tellWithin 1 = .ok (.getfield 21, 3) := by decide +kernel
theorem dX2_tellWithin_4 : decode cX2_tellWithin 4 = .ok (.iconst 0, 1) := by decide +kernel
theorem dX2_tellWithin_5 : decode cX2_tellWithin 5 = .ok (.invokestatic 95, 3) := by decide +kernel
theorem dX2_tellWithin_8 : decode cX2_tellWithin 8 = .ok (.iconst 0, 1) := by decide +kernel
theorem dX2_tellWithin_9 : decode cX2_tellWithin 9 = .ok (.istore_n 1, 1) := by decide +kernel
theorem dX2_tellWithin_10 : decode cX2_tellWithin 10 = .ok (.iload_n 1, 1) := by decide +kernel
theorem dX2_tellWithin_11 : decode cX2_tellWithin 11 = .ok (.aload_n 0, 1) := by decide +kernel
theorem dX2_tellWithin_12 : decode cX2_tellWithin 12 = .ok (.getfield 38, 3) := by decide +kernel
theorem dX2_tellWithin_15 : decode cX2_tellWithin 15 = .ok (.if_icmp .ge 24, 3) := by decide +kernel
theorem dX2_tellWithin_18 : decode cX2_tellWithin 18 = .ok (.aload_n 0, 1) := by decide +kernel
theorem dX2_tellWithin_19 : decode cX2_tellWithin 19 = .ok (.getfield 21, 3) := by decide +kernel
theorem dX2_tellWithin_22 : decode cX2_tellWithin 22 = .ok (.aload_n 0, 1) := by decide +kernel
theorem dX2_tellWithin_23 : decode cX2_tellWithin 23 = .ok (.getfield 15, 3) := by decide +kernel
theorem dX2_tellWithin_26 : decode cX2_tellWithin 26 = .ok (.iload_n 1, 1) := by decide +kernel
theorem dX2_tellWithin_27 : decode cX2_tellWithin 27 = .ok (.iaload, 1) := by decide +kernel
theorem dX2_tellWithin_28 : decode cX2_tellWithin 28 = .ok (.dup2, 1) := by decide +kernel
theorem dX2_tellWithin_29 : decode cX2_tellWithin 29 = .ok (.iaload, 1) := by decide +kernel
theorem dX2_tellWithin_30 : decode cX2_tellWithin 30 = .ok (.iconst 1, 1) := by decide +kernel
theorem dX2_tellWithin_31 : decode cX2_tellWithin 31 = .ok (.iadd, 1) := by decide +kernel
theorem dX2_tellWithin_32 : decode cX2_tellWithin 32 = .ok (.iastore, 1) := by decide +kernel
theorem dX2_tellWithin_33 : decode cX2_tellWithin 33 = .ok (.iinc 1 1, 3) := by decide +kernel
theorem dX2_tellWithin_36 : decode cX2_tellWithin 36 = .ok (.goto (-26), 3) := by decide +kernel
theorem dX2_tellWithin_39 : decode cX2_tellWithin 39 = .ok (.aload_n 0, 1) := by decide +kernel
theorem dX2_tellWithin_40 : decode cX2_tellWithin 40 = .ok (.getfield 21, 3) := by decide +kernel
theorem dX2_tellWithin_43 : decode cX2_tellWithin 43 = .ok (.aload_n 0, 1) := by decide +kernel
theorem dX2_tellWithin_44 : decode cX2_tellWithin 44 = .ok (.getfield 30, 3) := by decide +kernel
theorem dX2_tellWithin_47 : decode cX2_tellWithin 47 = .ok (.getfield 58, 3) := by decide +kernel
theorem dX2_tellWithin_50 : decode cX2_tellWithin 50 = .ok (.invokestatic 98, 3) := by decide +kernel
theorem dX2_tellWithin_53 : decode cX2_tellWithin 53 = .ok (.return_, 1) := by decide +kernel
theorem dX2_addUp_0 : decode cX2_addUp 0 = .ok (.iconst 0, 1) := by decide +kernel
theorem dX2_addUp_1 : decode cX2_addUp 1 = .ok (.istore_n 2, 1) := by decide +kernel
theorem dX2_addUp_2 : decode cX2_addUp 2 = .ok (.iload_n 2, 1) := by decide +kernel
theorem dX2_addUp_3 : decode cX2_addUp 3 = .ok (.iload_n 1, 1) := by decide +kernel
theorem dX2_addUp_4 : decode cX2_addUp 4 = .ok (.if_icmp .ge 50, 3) := by decide +kernel
theorem dX2_addUp_7 : decode cX2_addUp 7 = .ok (.iconst 1, 1) := by decide +kernel
theorem dX2_addUp_8 : decode cX2_addUp 8 = .ok (.iload_n 2, 1) := by decide +kernel
theorem dX2_addUp_9 : decode cX2_addUp 9 = .ok (.ishl, 1) := by decide +kernel
theorem dX2_addUp_10 : decode cX2_addUp 10 = .ok (.istore_n 3, 1) := by decide +kernel
theorem dX2_addUp_11 : decode cX2_addUp 11 = .ok (.iconst 0, 1) := by decide +kernel
theorem dX2_addUp_12 : decode cX2_addUp 12 = .ok (.istore 4, 2) := by decide +kernel
theorem dX2_addUp_14 : decode cX2_addUp 14 = .ok (.iload 4, 2) := by decide +kernel
theorem dX2_addUp_16 : decode cX2_addUp 16 = .ok (.iconst 1, 1) := by decide +kernel
theorem dX2_addUp_17 : decode cX2_addUp 17 = .ok (.iload_n 1, 1) := by decide +kernel
theorem dX2_addUp_18 : decode cX2_addUp 18 = .ok (.ishl, 1) := by decide +kernel
theorem dX2_addUp_19 : decode cX2_addUp 19 = .ok (.if_icmp .ge 29, 3) := by decide +kernel
theorem dX2_addUp_22 : decode cX2_addUp 22 = .ok (.iload 4, 2) := by decide +kernel
theorem dX2_addUp_24 : decode cX2_addUp 24 = .ok (.iload_n 3, 1) := by decide +kernel
theorem dX2_addUp_25 : decode cX2_addUp 25 = .ok (.iand, 1) := by decide +kernel
theorem dX2_addUp_26 : decode cX2_addUp 26 = .ok (.ifCond .eq 16, 3) := by decide +kernel
theorem dX2_addUp_29 : decode cX2_addUp 29 = .ok (.aload_n 0, 1) := by decide +kernel
theorem dX2_addUp_30 : decode cX2_addUp 30 = .ok (.iload 4, 2) := by decide +kernel
theorem dX2_addUp_32 : decode cX2_addUp 32 = .ok (.dup2, 1) := by decide +kernel
theorem dX2_addUp_33 : decode cX2_addUp 33 = .ok (.iaload, 1) := by decide +kernel
theorem dX2_addUp_34 : decode cX2_addUp 34 = .ok (.aload_n 0, 1) := by decide +kernel
theorem dX2_addUp_35 : decode cX2_addUp 35 = .ok (.iload 4, 2) := by decide +kernel
theorem dX2_addUp_37 : decode cX2_addUp 37 = .ok (.iload_n 3, 1) := by decide +kernel
theorem dX2_addUp_38 : decode cX2_addUp 38 = .ok (.ixor, 1) := by decide +kernel
theorem dX2_addUp_39 : decode cX2_addUp 39 = .ok (.iaload, 1) := by decide +kernel
theorem dX2_addUp_40 : decode cX2_addUp 40 = .ok (.iadd, 1) := by decide +kernel
theorem dX2_addUp_41 : decode cX2_addUp 41 = .ok (.iastore, 1) := by decide +kernel
theorem dX2_addUp_42 : decode cX2_addUp 42 = .ok (.iinc 4 1, 3) := by decide +kernel
theorem dX2_addUp_45 : decode cX2_addUp 45 = .ok (.goto (-31), 3) := by decide +kernel
theorem dX2_addUp_48 : decode cX2_addUp 48 = .ok (.iinc 2 1, 3) := by decide +kernel
theorem dX2_addUp_51 : decode cX2_addUp 51 = .ok (.goto (-49), 3) := by decide +kernel
theorem dX2_addUp_54 : decode cX2_addUp 54 = .ok (.return_, 1) := by decide +kernel
theorem dX2_fewest_0 : decode cX2_fewest 0 = .ok (.iconst 1, 1) := by decide +kernel
theorem dX2_fewest_1 : decode cX2_fewest 1 = .ok (.iload_n 1, 1) := by decide +kernel
theorem dX2_fewest_2 : decode cX2_fewest 2 = .ok (.ishl, 1) := by decide +kernel
theorem dX2_fewest_3 : decode cX2_fewest 3 = .ok (.iconst 1, 1) := by decide +kernel
theorem dX2_fewest_4 : decode cX2_fewest 4 = .ok (.isub, 1) := by decide +kernel
theorem dX2_fewest_5 : decode cX2_fewest 5 = .ok (.istore_n 2, 1) := by decide +kernel
theorem dX2_fewest_6 : decode cX2_fewest 6 = .ok (.iload_n 2, 1) := by decide +kernel
theorem dX2_fewest_7 : decode cX2_fewest 7 = .ok (.istore_n 3, 1) := by decide +kernel
theorem dX2_fewest_8 : decode cX2_fewest 8 = .ok (.iconst 0, 1) := by decide +kernel
theorem dX2_fewest_9 : decode cX2_fewest 9 = .ok (.istore 4, 2) := by decide +kernel
theorem dX2_fewest_11 : decode cX2_fewest 11 = .ok (.iload 4, 2) := by decide +kernel
theorem dX2_fewest_13 : decode cX2_fewest 13 = .ok (.iload_n 2, 1) := by decide +kernel
theorem dX2_fewest_14 : decode cX2_fewest 14 = .ok (.if_icmp .gt 33, 3) := by decide +kernel
theorem dX2_fewest_17 : decode cX2_fewest 17 = .ok (.aload_n 0, 1) := by decide +kernel
theorem dX2_fewest_18 : decode cX2_fewest 18 = .ok (.iload_n 2, 1) := by decide +kernel
theorem dX2_fewest_19 : decode cX2_fewest 19 = .ok (.iload 4, 2) := by decide +kernel
theorem dX2_fewest_21 : decode cX2_fewest 21 = .ok (.ixor, 1) := by decide +kernel
theorem dX2_fewest_22 : decode cX2_fewest 22 = .ok (.iaload, 1) := by decide +kernel
theorem dX2_fewest_23 : decode cX2_fewest 23 = .ok (.ifCond .ne 18, 3) := by decide +kernel
theorem dX2_fewest_26 : decode cX2_fewest 26 = .ok (.iload 4, 2) := by decide +kernel
theorem dX2_fewest_28 : decode cX2_fewest 28 = .ok (.invokestatic 101, 3) := by decide +kernel
theorem dX2_fewest_31 : decode cX2_fewest 31 = .ok (.iload_n 3, 1) := by decide +kernel
theorem dX2_fewest_32 : decode cX2_fewest 32 = .ok (.invokestatic 101, 3) := by decide +kernel
theorem dX2_fewest_35 : decode cX2_fewest 35 = .ok (.if_icmp .ge 6, 3) := by decide +kernel
theorem dX2_fewest_38 : decode cX2_fewest 38 = .ok (.iload 4, 2) := by decide +kernel
theorem dX2_fewest_40 : decode cX2_fewest 40 = .ok (.istore_n 3, 1) := by decide +kernel
theorem dX2_fewest_41 : decode cX2_fewest 41 = .ok (.iinc 4 1, 3) := by decide +kernel
theorem dX2_fewest_44 : decode cX2_fewest 44 = .ok (.goto (-33), 3) := by decide +kernel
theorem dX2_fewest_47 : decode cX2_fewest 47 = .ok (.iload_n 3, 1) := by decide +kernel
theorem dX2_fewest_48 : decode cX2_fewest 48 = .ok (.ireturn, 1) := by decide +kernel
theorem dX2_rankIn_0 : decode cX2_rankIn 0 = .ok (.aload_n 0, 1) := by decide +kernel
theorem dX2_rankIn_1 : decode cX2_rankIn 1 = .ok (.getfield 9, 3) := by decide +kernel
theorem dX2_rankIn_4 : decode cX2_rankIn 4 = .ok (.iload_n 2, 1) := by decide +kernel
theorem dX2_rankIn_5 : decode cX2_rankIn 5 = .ok (.iaload, 1) := by decide +kernel
theorem dX2_rankIn_6 : decode cX2_rankIn 6 = .ok (.istore_n 3, 1) := by decide +kernel
theorem dX2_rankIn_7 : decode cX2_rankIn 7 = .ok (.aload_n 0, 1) := by decide +kernel
theorem dX2_rankIn_8 : decode cX2_rankIn 8 = .ok (.getfield 34, 3) := by decide +kernel
theorem dX2_rankIn_11 : decode cX2_rankIn 11 = .ok (.getfield 47, 3) := by decide +kernel
theorem dX2_rankIn_14 : decode cX2_rankIn 14 = .ok (.istore 4, 2) := by decide +kernel
theorem dX2_rankIn_16 : decode cX2_rankIn 16 = .ok (.iload_n 3, 1) := by decide +kernel
theorem dX2_rankIn_17 : decode cX2_rankIn 17 = .ok (.ifCond .le 17, 3) := by decide +kernel
theorem dX2_rankIn_20 : decode cX2_rankIn 20 = .ok (.iload 4, 2) := by decide +kernel
theorem dX2_rankIn_22 : decode cX2_rankIn 22 = .ok (.ifCond .le 12, 3) := by decide +kernel
theorem dX2_rankIn_25 : decode cX2_rankIn 25 = .ok (.iload_n 1, 1) := by decide +kernel
theorem dX2_rankIn_26 : decode cX2_rankIn 26 = .ok (.iload_n 3, 1) := by decide +kernel
theorem dX2_rankIn_27 : decode cX2_rankIn 27 = .ok (.idiv, 1) := by decide +kernel
theorem dX2_rankIn_28 : decode cX2_rankIn 28 = .ok (.iload 4, 2) := by decide +kernel
theorem dX2_rankIn_30 : decode cX2_rankIn 30 = .ok (.irem, 1) := by decide +kernel
theorem dX2_rankIn_31 : decode cX2_rankIn 31 = .ok (.goto 4, 3) := by decide +kernel
theorem dX2_rankIn_34 : decode cX2_rankIn 34 = .ok (.iconst 0, 1) := by decide +kernel
theorem dX2_rankIn_35 : decode cX2_rankIn 35 = .ok (.ireturn, 1) := by decide +kernel
theorem dX2_groupIn_0 : decode cX2_groupIn 0 = .ok (.aload_n 0, 1) := by decide +kernel
theorem dX2_groupIn_1 : decode cX2_groupIn 1 = .ok (.getfield 34, 3) := by decide +kernel
theorem dX2_groupIn_4 : decode cX2_groupIn 4 = .ok (.aload_n 0, 1) := by decide +kernel
theorem dX2_groupIn_5 : decode cX2_groupIn 5 = .ok (.iload_n 1, 1) := by decide +kernel
theorem dX2_groupIn_6 : decode cX2_groupIn 6 = .ok (.aload_n 0, 1) := by decide +kernel
theorem dX2_groupIn_7 : decode cX2_groupIn 7 = .ok (.getfield 30, 3) := by decide +kernel
theorem dX2_groupIn_10 : decode cX2_groupIn 10 = .ok (.iload_n 2, 1) := by decide +kernel
theorem dX2_groupIn_11 : decode cX2_groupIn 11 = .ok (.invokevirtual 115, 3) := by decide +kernel
theorem dX2_groupIn_14 : decode cX2_groupIn 14 = .ok (.invokevirtual 88, 3) := by decide +kernel
theorem dX2_groupIn_17 : decode cX2_groupIn 17 = .ok (.aload_n 0, 1) := by decide +kernel
theorem dX2_groupIn_18 : decode cX2_groupIn 18 = .ok (.getfield 30, 3) := by decide +kernel
theorem dX2_groupIn_21 : decode cX2_groupIn 21 = .ok (.iload_n 2, 1) := by decide +kernel
theorem dX2_groupIn_22 : decode cX2_groupIn 22 = .ok (.invokevirtual 118, 3) := by decide +kernel
theorem dX2_groupIn_25 : decode cX2_groupIn 25 = .ok (.invokevirtual 84, 3) := by decide +kernel
theorem dX2_groupIn_28 : decode cX2_groupIn 28 = .ok (.ireturn, 1) := by decide +kernel
theorem dX3_forget_0 : decode cX3_forget 0 = .ok (.aload_n 0, 1) := by decide +kernel
theorem dX3_forget_1 : decode cX3_forget 1 = .ok (.iconst 2, 1) := by decide +kernel
theorem dX3_forget_2 : decode cX3_forget 2 = .ok (.putfield 27, 3) := by decide +kernel
theorem dX3_forget_5 : decode cX3_forget 5 = .ok (.aload_n 0, 1) := by decide +kernel
theorem dX3_forget_6 : decode cX3_forget 6 = .ok (.iconst 0, 1) := by decide +kernel
theorem dX3_forget_7 : decode cX3_forget 7 = .ok (.putfield 31, 3) := by decide +kernel
theorem dX3_forget_10 : decode cX3_forget 10 = .ok (.aload_n 0, 1) := by decide +kernel
theorem dX3_forget_11 : decode cX3_forget 11 = .ok (.iconst 0, 1) := by decide +kernel
theorem dX3_forget_12 : decode cX3_forget 12 = .ok (.putfield 34, 3) := by decide +kernel
theorem dX3_forget_15 : decode cX3_forget 15 = .ok (.aload_n 0, 1) := by decide +kernel
theorem dX3_forget_16 : decode cX3_forget 16 = .ok (.iconst 0, 1) := by decide +kernel
theorem dX3_forget_17 : decode cX3_forget 17 = .ok (.putfield 37, 3) := by decide +kernel
theorem dX3_forget_20 : decode cX3_forget 20 = .ok (.aload_n 0, 1) := by decide +kernel
theorem dX3_forget_21 : decode cX3_forget 21 = .ok (.iconst 0, 1) := by decide +kernel
theorem dX3_forget_22 : decode cX3_forget 22 = .ok (.putfield 40, 3) := by decide +kernel
theorem dX3_forget_25 : decode cX3_forget 25 = .ok (.aload_n 0, 1) := by decide +kernel
theorem dX3_forget_26 : decode cX3_forget 26 = .ok (.iconst 0, 1) := by decide +kernel
theorem dX3_forget_27 : decode cX3_forget 27 = .ok (.putfield 43, 3) := by decide +kernel
theorem dX3_forget_30 : decode cX3_forget 30 = .ok (.return_, 1) := by decide +kernel
theorem dX3_take_0 : decode cX3_take 0 = .ok (.aload_n 0, 1) := by decide +kernel
theorem dX3_take_1 : decode cX3_take 1 = .ok (.aload_n 1, 1) := by decide +kernel
theorem dX3_take_2 : decode cX3_take 2 = .ok (.getfield 27, 3) := by decide +kernel
theorem dX3_take_5 : decode cX3_take 5 = .ok (.putfield 27, 3) := by decide +kernel
theorem dX3_take_8 : decode cX3_take 8 = .ok (.aload_n 0, 1) := by decide +kernel
theorem dX3_take_9 : decode cX3_take 9 = .ok (.aload_n 1, 1) := by decide +kernel
theorem dX3_take_10 : decode cX3_take 10 = .ok (.getfield 31, 3) := by decide +kernel
theorem dX3_take_13 : decode cX3_take 13 = .ok (.putfield 31, 3) := by decide +kernel
theorem dX3_take_16 : decode cX3_take 16 = .ok (.aload_n 0, 1) := by decide +kernel
theorem dX3_take_17 : decode cX3_take 17 = .ok (.aload_n 1, 1) := by decide +kernel
theorem dX3_take_18 : decode cX3_take 18 = .ok (.getfield 34, 3) := by decide +kernel
theorem dX3_take_21 : decode cX3_take 21 = .ok (.putfield 34, 3) := by decide +kernel
theorem dX3_take_24 : decode cX3_take 24 = .ok (.aload_n 0, 1) := by decide +kernel
theorem dX3_take_25 : decode cX3_take 25 = .ok (.aload_n 1, 1) := by decide +kernel
theorem dX3_take_26 : decode cX3_take 26 = .ok (.getfield 37, 3) := by decide +kernel
theorem dX3_take_29 : decode cX3_take 29 = .ok (.putfield 37, 3) := by decide +kernel
theorem dX3_take_32 : decode cX3_take 32 = .ok (.aload_n 0, 1) := by decide +kernel
theorem dX3_take_33 : decode cX3_take 33 = .ok (.aload_n 1, 1) := by decide +kernel
theorem dX3_take_34 : decode cX3_take 34 = .ok (.getfield 40, 3) := by decide +kernel
theorem dX3_take_37 : decode cX3_take 37 = .ok (.putfield 40, 3) := by decide +kernel
theorem dX3_take_40 : decode cX3_take 40 = .ok (.aload_n 0, 1) := by decide +kernel
theorem dX3_take_41 : decode cX3_take 41 = .ok (.aload_n 1, 1) := by decide +kernel
theorem dX3_take_42 : decode cX3_take 42 = .ok (.getfield 43, 3) := by decide +kernel
theorem dX3_take_45 : decode cX3_take 45 = .ok (.putfield 43, 3) := by decide +kernel
theorem dX3_take_48 : decode cX3_take 48 = .ok (.aload_n 1, 1) := by decide +kernel
theorem dX3_take_49 : decode cX3_take 49 = .ok (.getfield 9, 3) := by decide +kernel
theorem dX3_take_52 : decode cX3_take 52 = .ok (.iconst 0, 1) := by decide +kernel
theorem dX3_take_53 : decode cX3_take 53 = .ok (.aload_n 0, 1) := by decide +kernel
theorem dX3_take_54 : decode cX3_take 54 = .ok (.getfield 9, 3) := by decide +kernel
theorem dX3_take_57 : decode cX3_take 57 = .ok (.iconst 0, 1) := by decide +kernel
theorem dX3_take_58 : decode cX3_take 58 = .ok (.bipush 12, 2) := by decide +kernel
theorem dX3_take_60 : decode cX3_take 60 = .ok (.invokestatic 46, 3) := by decide +kernel
theorem dX3_take_63 : decode cX3_take 63 = .ok (.aload_n 1, 1) := by decide +kernel
theorem dX3_take_64 : decode cX3_take 64 = .ok (.getfield 15, 3) := by decide +kernel
theorem dX3_take_67 : decode cX3_take 67 = .ok (.iconst 0, 1) := by decide +kernel
theorem dX3_take_68 : decode cX3_take 68 = .ok (.aload_n 0, 1) := by decide +kernel
theorem dX3_take_69 : decode cX3_take 69 = .ok (.getfield 15, 3) := by decide +kernel
theorem dX3_take_72 : decode cX3_take 72 = .ok (.iconst 0, 1) := by decide +kernel
theorem dX3_take_73 : decode cX3_take 73 = .ok (.bipush 12, 2) := by decide +kernel
theorem dX3_take_75 : decode cX3_take 75 = .ok (.invokestatic 46, 3) := by decide +kernel
theorem dX3_take_78 : decode cX3_take 78 = .ok (.aload_n 1, 1) := by decide +kernel
theorem dX3_take_79 : decode cX3_take 79 = .ok (.getfield 18, 3) := by decide +kernel
theorem dX3_take_82 : decode cX3_take 82 = .ok (.iconst 0, 1) := by decide +kernel
theorem dX3_take_83 : decode cX3_take 83 = .ok (.aload_n 0, 1) := by decide +kernel
theorem dX3_take_84 : decode cX3_take 84 = .ok (.getfield 18, 3) := by decide +kernel
theorem dX3_take_87 : decode cX3_take 87 = .ok (.iconst 0, 1) := by decide +kernel
theorem dX3_take_88 : decode cX3_take 88 = .ok (.bipush 6, 2) := by decide +kernel
theorem dX3_take_90 : decode cX3_take 90 = .ok (.invokestatic 46, 3) := by decide +kernel
theorem dX3_take_93 : decode cX3_take 93 = .ok (.aload_n 1, 1) := by decide +kernel
theorem dX3_take_94 : decode cX3_take 94 = .ok (.getfield 21, 3) := by decide +kernel
theorem dX3_take_97 : decode cX3_take 97 = .ok (.iconst 0, 1) := by decide +kernel
theorem dX3_take_98 : decode cX3_take 98 = .ok (.aload_n 0, 1) := by decide +kernel
theorem dX3_take_99 : decode cX3_take 99 = .ok (.getfield 21, 3) := by decide +kernel
theorem dX3_take_102 : decode cX3_take 102 = .ok (.iconst 0, 1) := by decide +kernel
theorem dX3_take_103 : decode cX3_take 103 = .ok (.bipush 10, 2) := by decide +kernel
theorem dX3_take_105 : decode cX3_take 105 = .ok (.invokestatic 46, 3) := by decide +kernel
theorem dX3_take_108 : decode cX3_take 108 = .ok (.aload_n 1, 1) := by decide +kernel
theorem dX3_take_109 : decode cX3_take 109 = .ok (.getfield 24, 3) := by decide +kernel
theorem dX3_take_112 : decode cX3_take 112 = .ok (.iconst 0, 1) := by decide +kernel
theorem dX3_take_113 : decode cX3_take 113 = .ok (.aload_n 0, 1) := by decide +kernel
theorem dX3_take_114 : decode cX3_take 114 = .ok (.getfield 24, 3) := by decide +kernel
theorem dX3_take_117 : decode cX3_take 117 = .ok (.iconst 0, 1) := by decide +kernel
theorem dX3_take_118 : decode cX3_take 118 = .ok (.bipush 10, 2) := by decide +kernel
theorem dX3_take_120 : decode cX3_take 120 = .ok (.invokestatic 46, 3) := by decide +kernel
theorem dX3_take_123 : decode cX3_take 123 = .ok (.return_, 1) := by decide +kernel
theorem dX3_addTeam_0 : decode cX3_addTeam 0 = .ok (.aload_n 0, 1) := by decide +kernel
theorem dX3_addTeam_1 : decode cX3_addTeam 1 = .ok (.getfield 34, 3) := by decide +kernel
theorem dX3_addTeam_4 : decode cX3_addTeam 4 = .ok (.bipush 12, 2) := by decide +kernel
theorem dX3_addTeam_6 : decode cX3_addTeam 6 = .ok (.if_icmp .ge 33, 3) := by decide +kernel
theorem dX3_addTeam_9 : decode cX3_addTeam 9 = .ok (.aload_n 0, 1) := by decide +kernel
theorem dX3_addTeam_10 : decode cX3_addTeam 10 = .ok (.getfield 9, 3) := by decide +kernel
theorem dX3_addTeam_13 : decode cX3_addTeam 13 = .ok (.aload_n 0, 1) := by decide +kernel
theorem dX3_addTeam_14 : decode cX3_addTeam 14 = .ok (.getfield 34, 3) := by decide +kernel
theorem dX3_addTeam_17 : decode cX3_addTeam 17 = .ok (.iload_n 1, 1) := by decide +kernel
theorem dX3_addTeam_18 : decode cX3_addTeam 18 = .ok (.iastore, 1) := by decide +kernel
theorem dX3_addTeam_19 : decode cX3_addTeam 19 = .ok (.aload_n 0, 1) := by decide +kernel
theorem dX3_addTeam_20 : decode cX3_addTeam 20 = .ok (.getfield 15, 3) := by decide +kernel
theorem dX3_addTeam_23 : decode cX3_addTeam 23 = .ok (.aload_n 0, 1) := by decide +kernel
theorem dX3_addTeam_24 : decode cX3_addTeam 24 = .ok (.getfield 34, 3) := by decide +kernel
theorem dX3_addTeam_27 : decode cX3_addTeam 27 = .ok (.iconst 0, 1) := by decide +kernel
theorem dX3_addTeam_28 : decode cX3_addTeam 28 = .ok (.iastore, 1) := by decide +kernel
theorem dX3_addTeam_29 : decode cX3_addTeam 29 = .ok (.aload_n 0, 1) := by decide +kernel
theorem dX3_addTeam_30 : decode cX3_addTeam 30 = .ok (.dup, 1) := by decide +kernel
theorem dX3_addTeam_31 : decode cX3_addTeam 31 = .ok (.getfield 34, 3) := by decide +kernel
theorem dX3_addTeam_34 : decode cX3_addTeam 34 = .ok (.iconst 1, 1) := by decide +kernel
theorem dX3_addTeam_35 : decode cX3_addTeam 35 = .ok (.iadd, 1) := by decide +kernel
theorem dX3_addTeam_36 : decode cX3_addTeam 36 = .ok (.putfield 34, 3) := by decide +kernel
theorem dX3_addTeam_39 : decode cX3_addTeam 39 = .ok (.return_, 1) := by decide +kernel
theorem dX3_addMark_0 : decode cX3_addMark 0 = .ok (.aload_n 0, 1) := by decide +kernel
theorem dX3_addMark_1 : decode cX3_addMark 1 = .ok (.getfield 37, 3) := by decide +kernel
theorem dX3_addMark_4 : decode cX3_addMark 4 = .ok (.bipush 6, 2) := by decide +kernel
theorem dX3_addMark_6 : decode cX3_addMark 6 = .ok (.if_icmp .ge 23, 3) := by decide +kernel
theorem dX3_addMark_9 : decode cX3_addMark 9 = .ok (.aload_n 0, 1) := by decide +kernel
theorem dX3_addMark_10 : decode cX3_addMark 10 = .ok (.getfield 18, 3) := by decide +kernel
theorem dX3_addMark_13 : decode cX3_addMark 13 = .ok (.aload_n 0, 1) := by decide +kernel
theorem dX3_addMark_14 : decode cX3_addMark 14 = .ok (.getfield 37, 3) := by decide +kernel
theorem dX3_addMark_17 : decode cX3_addMark 17 = .ok (.iload_n 1, 1) := by decide +kernel
theorem dX3_addMark_18 : decode cX3_addMark 18 = .ok (.iastore, 1) := by decide +kernel
theorem dX3_addMark_19 : decode cX3_addMark 19 = .ok (.aload_n 0, 1) := by decide +kernel
theorem dX3_addMark_20 : decode cX3_addMark 20 = .ok (.dup, 1) := by decide +kernel
theorem dX3_addMark_21 : decode cX3_addMark 21 = .ok (.getfield 37, 3) := by decide +kernel
theorem dX3_addMark_24 : decode cX3_addMark 24 = .ok (.iconst 1, 1) := by decide +kernel
theorem dX3_addMark_25 : decode cX3_addMark 25 = .ok (.iadd, 1) := by decide +kernel
theorem dX3_addMark_26 : decode cX3_addMark 26 = .ok (.putfield 37, 3) := by decide +kernel
theorem dX3_addMark_29 : decode cX3_addMark 29 = .ok (.return_, 1) := by decide +kernel
theorem dX3_teamNamed_0 : decode cX3_teamNamed 0 = .ok (.aload_n 0, 1) := by decide +kernel
theorem dX3_teamNamed_1 : decode cX3_teamNamed 1 = .ok (.getfield 9, 3) := by decide +kernel
theorem dX3_teamNamed_4 : decode cX3_teamNamed 4 = .ok (.aload_n 0, 1) := by decide +kernel
theorem dX3_teamNamed_5 : decode cX3_teamNamed 5 = .ok (.getfield 34, 3) := by decide +kernel
theorem dX3_teamNamed_8 : decode cX3_teamNamed 8 = .ok (.iload_n 1, 1) := by decide +kernel
theorem dX3_teamNamed_9 : decode cX3_teamNamed 9 = .ok (.invokestatic 52, 3) := by decide +kernel
theorem dX3_teamNamed_12 : decode cX3_teamNamed 12 = .ok (.ireturn, 1) := by decide +kernel
theorem dX3_markNamed_0 : decode cX3_markNamed 0 = .ok (.aload_n 0, 1) := by decide +kernel
theorem dX3_markNamed_1 : decode cX3_markNamed 1 = .ok (.getfield 18, 3) := by decide +kernel
theorem dX3_markNamed_4 : decode cX3_markNamed 4 = .ok (.aload_n 0, 1) := by decide +kernel
theorem dX3_markNamed_5 : decode cX3_markNamed 5 = .ok (.getfield 37, 3) := by decide +kernel
theorem dX3_markNamed_8 : decode cX3_markNamed 8 = .ok (.iload_n 1, 1) := by decide +kernel
theorem dX3_markNamed_9 : decode cX3_markNamed 9 = .ok (.invokestatic 52, 3) := by decide +kernel
theorem dX3_markNamed_12 : decode cX3_markNamed 12 = .ok (.ireturn, 1) := by decide +kernel
theorem dX3_find_0 : decode cX3_find 0 = .ok (.iconst 0, 1) := by decide +kernel
theorem dX3_find_1 : decode cX3_find 1 = .ok (.istore_n 3, 1) := by decide +kernel
theorem dX3_find_2 : decode cX3_find 2 = .ok (.iload_n 3, 1) := by decide +kernel
theorem dX3_find_3 : decode cX3_find 3 = .ok (.iload_n 1, 1) := by decide +kernel
theorem dX3_find_4 : decode cX3_find 4 = .ok (.if_icmp .ge 24, 3) := by decide +kernel
theorem dX3_find_7 : decode cX3_find 7 = .ok (.iload_n 3, 1) := by decide +kernel
theorem dX3_find_8 : decode cX3_find 8 = .ok (.aload_n 0, 1) := by decide +kernel
theorem dX3_find_9 : decode cX3_find 9 = .ok (.arraylength, 1) := by decide +kernel
theorem dX3_find_10 : decode cX3_find 10 = .ok (.if_icmp .ge 18, 3) := by decide +kernel
theorem dX3_find_13 : decode cX3_find 13 = .ok (.aload_n 0, 1) := by decide +kernel
theorem dX3_find_14 : decode cX3_find 14 = .ok (.iload_n 3, 1) := by decide +kernel
theorem dX3_find_15 : decode cX3_find 15 = .ok (.iaload, 1) := by decide +kernel
theorem dX3_find_16 : decode cX3_find 16 = .ok (.iload_n 2, 1) := by decide +kernel
theorem dX3_find_17 : decode cX3_find 17 = .ok (.if_icmp .ne 5, 3) := by decide +kernel
theorem dX3_find_20 : decode cX3_find 20 = .ok (.iload_n 3, 1) := by decide +kernel
theorem dX3_find_21 : decode cX3_find 21 = .ok (.ireturn, 1) := by decide +kernel
theorem dX3_find_22 : decode cX3_find 22 = .ok (.iinc 3 1, 3) := by decide +kernel
theorem dX3_find_25 : decode cX3_find 25 = .ok (.goto (-23), 3) := by decide +kernel
theorem dX3_find_28 : decode cX3_find 28 = .ok (.iconst (-1), 1) := by decide +kernel
theorem dX3_find_29 : decode cX3_find 29 = .ok (.ireturn, 1) := by decide +kernel
theorem dX3_potOf_0 : decode cX3_potOf 0 = .ok (.aload_n 0, 1) := by decide +kernel
theorem dX3_potOf_1 : decode cX3_potOf 1 = .ok (.getfield 27, 3) := by decide +kernel
theorem dX3_potOf_4 : decode cX3_potOf 4 = .ok (.ifCond .le 12, 3) := by decide +kernel
theorem dX3_potOf_7 : decode cX3_potOf 7 = .ok (.iload_n 1, 1) := by decide +kernel
theorem dX3_potOf_8 : decode cX3_potOf 8 = .ok (.aload_n 0, 1) := by decide +kernel
theorem dX3_potOf_9 : decode cX3_potOf 9 = .ok (.getfield 27, 3) := by decide +kernel
theorem dX3_potOf_12 : decode cX3_potOf 12 = .ok (.idiv, 1) := by decide +kernel
theorem dX3_potOf_13 : decode cX3_potOf 13 = .ok (.goto 4, 3) := by decide +kernel
theorem dX3_potOf_16 : decode cX3_potOf 16 = .ok (.iconst 0, 1) := by decide +kernel
theorem dX3_potOf_17 : decode cX3_potOf 17 = .ok (.ireturn, 1) := by decide +kernel
theorem dX3_placeOf_0 : decode cX3_placeOf 0 = .ok (.aload_n 0, 1) := by decide +kernel
theorem dX3_placeOf_1 : decode cX3_placeOf 1 = .ok (.getfield 27, 3) := by decide +kernel
theorem dX3_placeOf_4 : decode cX3_placeOf 4 = .ok (.ifCond .le 12, 3) := by decide +kernel
theorem dX3_placeOf_7 : decode cX3_placeOf 7 = .ok (.iload_n 1, 1) := by decide +kernel
theorem dX3_placeOf_8 : decode cX3_placeOf 8 = .ok (.aload_n 0, 1) := by decide +kernel
theorem dX3_placeOf_9 : decode cX3_placeOf 9 = .ok (.getfield 27, 3) := by decide +kernel
theorem dX3_placeOf_12 : decode cX3_placeOf 12 = .ok (.irem, 1) := by decide +kernel
theorem dX3_placeOf_13 : decode cX3_placeOf 13 = .ok (.goto 4, 3) := by decide +kernel
theorem dX3_placeOf_16 : decode cX3_placeOf 16 = .ok (.iconst 0, 1) := by decide +kernel
theorem dX3_placeOf_17 : decode cX3_placeOf 17 = .ok (.ireturn, 1) := by decide +kernel
theorem dX3_teamsMarked_0 : decode cX3_teamsMarked 0 = .ok (.iconst 0, 1) := by decide +kernel
theorem dX3_teamsMarked_1 : decode cX3_teamsMarked 1 = .ok (.istore_n 2, 1) := by decide +kernel
theorem dX3_teamsMarked_2 : decode cX3_teamsMarked 2 = .ok (.iconst 0, 1) := by decide +kernel
theorem dX3_teamsMarked_3 : decode cX3_teamsMarked 3 = .ok (.istore_n 3, 1) := by decide +kernel
theorem dX3_teamsMarked_4 : decode cX3_teamsMarked 4 = .ok (.iload_n 3, 1) := by decide +kernel
theorem dX3_teamsMarked_5 : decode cX3_teamsMarked 5 = .ok (.aload_n 0, 1) := by decide +kernel
theorem dX3_teamsMarked_6 : decode cX3_teamsMarked 6 = .ok (.getfield 34, 3) := by decide +kernel
theorem dX3_teamsMarked_9 : decode cX3_teamsMarked 9 = .ok (.if_icmp .ge 24, 3) := by decide +kernel
theorem dX3_teamsMarked_12 : decode cX3_teamsMarked 12 = .ok (.iload_n 2, 1) := by decide +kernel
theorem dX3_teamsMarked_13 : decode cX3_teamsMarked 13 = .ok (.aload_n 0, 1) := by decide +kernel
theorem dX3_teamsMarked_14 : decode cX3_teamsMarked 14 = .ok (.getfield 15, 3) := by decide +kernel
theorem dX3_teamsMarked_17 : decode cX3_teamsMarked 17 = .ok (.iload_n 3, 1) := by decide +kernel
theorem dX3_teamsMarked_18 : decode cX3_teamsMarked 18 = .ok (.iaload, 1) := by decide +kernel
theorem dX3_teamsMarked_19 : decode cX3_teamsMarked 19 = .ok (.iload_n 1, 1) := by decide +kernel
theorem dX3_teamsMarked_20 : decode cX3_teamsMarked 20 = .ok (.iushr, 1) := by decide +kernel
theorem dX3_teamsMarked_21 : decode cX3_teamsMarked 21 = .ok (.iconst 1, 1) := by decide +kernel
theorem dX3_teamsMarked_22 : decode cX3_teamsMarked 22 = .ok (.iand, 1) := by decide +kernel
theorem dX3_teamsMarked_23 : decode cX3_teamsMarked 23 = .ok (.iload_n 3, 1) := by decide +kernel
theorem dX3_teamsMarked_24 : decode cX3_teamsMarked 24 = .ok (.ishl, 1) := by decide +kernel
theorem dX3_teamsMarked_25 : decode cX3_teamsMarked 25 = .ok (.ior, 1) := by decide +kernel
theorem dX3_teamsMarked_26 : decode cX3_teamsMarked 26 = .ok (.istore_n 2, 1) := by decide +kernel
theorem dX3_teamsMarked_27 : decode cX3_teamsMarked 27 = .ok (.iinc 3 1, 3) := by decide +kernel
theorem dX3_teamsMarked_30 : decode cX3_teamsMarked 30 = .ok (.goto (-26), 3) := by decide +kernel
theorem dX3_teamsMarked_33 : decode cX3_teamsMarked 33 = .ok (.iload_n 2, 1) := by decide +kernel
theorem dX3_teamsMarked_34 : decode cX3_teamsMarked 34 = .ok (.ireturn, 1) := by decide +kernel
theorem dX3_addAtMost_0 : decode cX3_addAtMost 0 = .ok (.aload_n 0, 1) := by decide +kernel
theorem dX3_addAtMost_1 : decode cX3_addAtMost 1 = .ok (.iload_n 2, 1) := by decide +kernel
theorem dX3_addAtMost_2 : decode cX3_addAtMost 2 = .ok (.iload_n 1, 1) := by decide +kernel
theorem dX3_addAtMost_3 : decode cX3_addAtMost 3 = .ok (.sipush 4369, 3) := by decide +kernel
theorem dX3_addAtMost_6 : decode cX3_addAtMost 6 = .ok (.imul, 1) := by decide +kernel
theorem dX3_addAtMost_7 : decode cX3_addAtMost 7 = .ok (.invokevirtual 60, 3) := by decide +kernel
theorem dX3_addAtMost_10 : decode cX3_addAtMost 10 = .ok (.return_, 1) := by decide +kernel
theorem dX3_addNever_0 : decode cX3_addNever 0 = .ok (.aload_n 0, 1) := by decide +kernel
theorem dX3_addNever_1 : decode cX3_addNever 1 = .ok (.dup, 1) := by decide +kernel
theorem dX3_addNever_2 : decode cX3_addNever 2 = .ok (.getfield 43, 3) := by decide +kernel
theorem dX3_addNever_5 : decode cX3_addNever 5 = .ok (.iconst 1, 1) := by decide +kernel
theorem dX3_addNever_6 : decode cX3_addNever 6 = .ok (.iload_n 2, 1) := by decide +kernel
theorem dX3_addNever_7 : decode cX3_addNever 7 = .ok (.ishl, 1) := by decide +kernel
theorem dX3_addNever_8 : decode cX3_addNever 8 = .ok (.ior, 1) := by decide +kernel
theorem dX3_addNever_9 : decode cX3_addNever 9 = .ok (.putfield 43, 3) := by decide +kernel
theorem dX3_addNever_12 : decode cX3_addNever 12 = .ok (.aload_n 0, 1) := by decide +kernel
theorem dX3_addNever_13 : decode cX3_addNever 13 = .ok (.iconst 1, 1) := by decide +kernel
theorem dX3_addNever_14 : decode cX3_addNever 14 = .ok (.iload_n 1, 1) := by decide +kernel
theorem dX3_addNever_15 : decode cX3_addNever 15 = .ok (.ishl, 1) := by decide +kernel
theorem dX3_addNever_16 : decode cX3_addNever 16 = .ok (.sipush 30583, 3) := by decide +kernel
theorem dX3_addNever_19 : decode cX3_addNever 19 = .ok (.bipush 15, 2) := by decide +kernel
theorem dX3_addNever_21 : decode cX3_addNever 21 = .ok (.iconst 4, 1) := by decide +kernel
theorem dX3_addNever_22 : decode cX3_addNever 22 = .ok (.iload_n 2, 1) := by decide +kernel
theorem dX3_addNever_23 : decode cX3_addNever 23 = .ok (.imul, 1) := by decide +kernel
theorem dX3_addNever_24 : decode cX3_addNever 24 = .ok (.ishl, 1) := by decide +kernel
theorem dX3_addNever_25 : decode cX3_addNever 25 = .ok (.iconst (-1), 1) := by decide +kernel
theorem dX3_addNever_26 : decode cX3_addNever 26 = .ok (.ixor, 1) := by decide +kernel
theorem dX3_addNever_27 : decode cX3_addNever 27 = .ok (.iand, 1) := by decide +kernel
theorem dX3_addNever_28 : decode cX3_addNever 28 = .ok (.invokevirtual 60, 3) := by decide +kernel
theorem dX3_addNever_31 : decode cX3_addNever 31 = .ok (.return_, 1) := by decide +kernel
theorem dX3_addFixed_0 : decode cX3_addFixed 0 = .ok (.aload_n 0, 1) := by decide +kernel
theorem dX3_addFixed_1 : decode cX3_addFixed 1 = .ok (.dup, 1) := by decide +kernel
theorem dX3_addFixed_2 : decode cX3_addFixed 2 = .ok (.getfield 43, 3) := by decide +kernel
theorem dX3_addFixed_5 : decode cX3_addFixed 5 = .ok (.iconst 1, 1) := by decide +kernel
theorem dX3_addFixed_6 : decode cX3_addFixed 6 = .ok (.iload_n 2, 1) := by decide +kernel
theorem dX3_addFixed_7 : decode cX3_addFixed 7 = .ok (.ishl, 1) := by decide +kernel
theorem dX3_addFixed_8 : decode cX3_addFixed 8 = .ok (.ior, 1) := by decide +kernel
theorem dX3_addFixed_9 : decode cX3_addFixed 9 = .ok (.putfield 43, 3) := by decide +kernel
theorem dX3_addFixed_12 : decode cX3_addFixed 12 = .ok (.aload_n 0, 1) := by decide +kernel
theorem dX3_addFixed_13 : decode cX3_addFixed 13 = .ok (.iconst 1, 1) := by decide +kernel
theorem dX3_addFixed_14 : decode cX3_addFixed 14 = .ok (.iload_n 1, 1) := by decide +kernel
theorem dX3_addFixed_15 : decode cX3_addFixed 15 = .ok (.ishl, 1) := by decide +kernel
theorem dX3_addFixed_16 : decode cX3_addFixed 16 = .ok (.bipush 7, 2) := by decide +kernel
theorem dX3_addFixed_18 : decode cX3_addFixed 18 = .ok (.iconst 4, 1) := by decide +kernel
theorem dX3_addFixed_19 : decode cX3_addFixed 19 = .ok (.iload_n 2, 1) := by decide +kernel
theorem dX3_addFixed_20 : decode cX3_addFixed 20 = .ok (.imul, 1) := by decide +kernel
theorem dX3_addFixed_21 : decode cX3_addFixed 21 = .ok (.ishl, 1) := by decide +kernel
theorem dX3_addFixed_22 : decode cX3_addFixed 22 = .ok (.invokevirtual 60, 3) := by decide +kernel
theorem dX3_addFixed_25 : decode cX3_addFixed 25 = .ok (.return_, 1) := by decide +kernel
theorem dX3_addBar_0 : decode cX3_addBar 0 = .ok (.aload_n 0, 1) := by decide +kernel
theorem dX3_addBar_1 : decode cX3_addBar 1 = .ok (.getfield 40, 3) := by decide +kernel
theorem dX3_addBar_4 : decode cX3_addBar 4 = .ok (.bipush 10, 2) := by decide +kernel
theorem dX3_addBar_6 : decode cX3_addBar 6 = .ok (.if_icmp .ge 33, 3) := by decide +kernel
theorem dX3_addBar_9 : decode cX3_addBar 9 = .ok (.aload_n 0, 1) := by decide +kernel
theorem dX3_addBar_10 : decode cX3_addBar 10 = .ok (.getfield 21, 3) := by decide +kernel
theorem dX3_addBar_13 : decode cX3_addBar 13 = .ok (.aload_n 0, 1) := by decide +kernel
theorem dX3_addBar_14 : decode cX3_addBar 14 = .ok (.getfield 40, 3) := by decide +kernel
theorem dX3_addBar_17 : decode cX3_addBar 17 = .ok (.iload_n 1, 1) := by decide +kernel
theorem dX3_addBar_18 : decode cX3_addBar 18 = .ok (.iastore, 1) := by decide +kernel
theorem dX3_addBar_19 : decode cX3_addBar 19 = .ok (.aload_n 0, 1) := by decide +kernel
theorem dX3_addBar_20 : decode cX3_addBar 20 = .ok (.getfield 24, 3) := by decide +kernel
theorem dX3_addBar_23 : decode cX3_addBar 23 = .ok (.aload_n 0, 1) := by decide +kernel
theorem dX3_addBar_24 : decode cX3_addBar 24 = .ok (.getfield 40, 3) := by decide +kernel
theorem dX3_addBar_27 : decode cX3_addBar 27 = .ok (.iload_n 2, 1) := by decide +kernel
theorem dX3_addBar_28 : decode cX3_addBar 28 = .ok (.iastore, 1) := by decide +kernel
theorem dX3_addBar_29 : decode cX3_addBar 29 = .ok (.aload_n 0, 1) := by decide +kernel
theorem dX3_addBar_30 : decode cX3_addBar 30 = .ok (.dup, 1) := by decide +kernel
theorem dX3_addBar_31 : decode cX3_addBar 31 = .ok (.getfield 40, 3) := by decide +kernel
theorem dX3_addBar_34 : decode cX3_addBar 34 = .ok (.iconst 1, 1) := by decide +kernel
theorem dX3_addBar_35 : decode cX3_addBar 35 = .ok (.iadd, 1) := by decide +kernel
theorem dX3_addBar_36 : decode cX3_addBar 36 = .ok (.putfield 40, 3) := by decide +kernel
theorem dX3_addBar_39 : decode cX3_addBar 39 = .ok (.return_, 1) := by decide +kernel
theorem dX4_set_0 : decode cX4_set 0 = .ok (.iload_n 1, 1) := by decide +kernel
theorem dX4_set_1 : decode cX4_set 1 = .ok (.aload_n 0, 1) := by decide +kernel
theorem dX4_set_2 : decode cX4_set 2 = .ok (.getfield 27, 3) := by decide +kernel
theorem dX4_set_5 : decode cX4_set 5 = .ok (.if_icmp .eq 13, 3) := by decide +kernel
theorem dX4_set_8 : decode cX4_set 8 = .ok (.iload_n 1, 1) := by decide +kernel
theorem dX4_set_9 : decode cX4_set 9 = .ok (.iconst 1, 1) := by decide +kernel
theorem dX4_set_10 : decode cX4_set 10 = .ok (.if_icmp .lt 8, 3) := by decide +kernel
theorem dX4_set_13 : decode cX4_set 13 = .ok (.iload_n 1, 1) := by decide +kernel
theorem dX4_set_14 : decode cX4_set 14 = .ok (.iconst 4, 1) := by decide +kernel
theorem dX4_set_15 : decode cX4_set 15 = .ok (.if_icmp .le 4, 3) := by decide +kernel
theorem dX4_set_18 : decode cX4_set 18 = .ok (.return_, 1) := by decide +kernel
theorem dX4_set_19 : decode cX4_set 19 = .ok (.aload_n 0, 1) := by decide +kernel
theorem dX4_set_20 : decode cX4_set 20 = .ok (.iload_n 1, 1) := by decide +kernel
theorem dX4_set_21 : decode cX4_set 21 = .ok (.putfield 27, 3) := by decide +kernel
theorem dX4_set_24 : decode cX4_set 24 = .ok (.aload_n 0, 1) := by decide +kernel
theorem dX4_set_25 : decode cX4_set 25 = .ok (.iconst 0, 1) := by decide +kernel
theorem dX4_set_26 : decode cX4_set 26 = .ok (.putfield 31, 3) := by decide +kernel
theorem dX4_set_29 : decode cX4_set 29 = .ok (.aload_n 0, 1) := by decide +kernel
theorem dX4_set_30 : decode cX4_set 30 = .ok (.getfield 18, 3) := by decide +kernel
theorem dX4_set_33 : decode cX4_set 33 = .ok (.iconst 0, 1) := by decide +kernel
theorem dX4_set_34 : decode cX4_set 34 = .ok (.invokestatic 34, 3) := by decide +kernel
theorem dX4_set_37 : decode cX4_set 37 = .ok (.iconst 0, 1) := by decide +kernel
theorem dX4_set_38 : decode cX4_set 38 = .ok (.istore_n 2, 1) := by decide +kernel
theorem dX4_set_39 : decode cX4_set 39 = .ok (.iload_n 2, 1) := by decide +kernel
theorem dX4_set_40 : decode cX4_set 40 = .ok (.iconst 1, 1) := by decide +kernel
theorem dX4_set_41 : decode cX4_set 41 = .ok (.iconst 2, 1) := by decide +kernel
theorem dX4_set_42 : decode cX4_set 42 = .ok (.iload_n 1, 1) := by decide +kernel
theorem dX4_set_43 : decode cX4_set 43 = .ok (.imul, 1) := by decide +kernel
theorem dX4_set_44 : decode cX4_set 44 = .ok (.ishl, 1) := by decide +kernel
theorem dX4_set_45 : decode cX4_set 45 = .ok (.if_icmp .ge 34, 3) := by decide +kernel
theorem dX4_set_48 : decode cX4_set 48 = .ok (.aload_n 0, 1) := by decide +kernel
theorem dX4_set_49 : decode cX4_set 49 = .ok (.getfield 31, 3) := by decide +kernel
theorem dX4_set_52 : decode cX4_set 52 = .ok (.bipush 24, 2) := by decide +kernel
theorem dX4_set_54 : decode cX4_set 54 = .ok (.if_icmp .ge 19, 3) := by decide +kernel
theorem dX4_set_57 : decode cX4_set 57 = .ok (.iload_n 2, 1) := by decide +kernel
theorem dX4_set_58 : decode cX4_set 58 = .ok (.iload_n 1, 1) := by decide +kernel
theorem dX4_set_59 : decode cX4_set 59 = .ok (.aload_n 0, 1) := by decide +kernel
theorem dX4_set_60 : decode cX4_set 60 = .ok (.getfield 24, 3) := by decide +kernel
theorem dX4_set_63 : decode cX4_set 63 = .ok (.invokestatic 40, 3) := by decide +kernel
theorem dX4_set_66 : decode cX4_set 66 = .ok (.ifCond .eq 7, 3) := by decide +kernel
theorem dX4_set_69 : decode cX4_set 69 = .ok (.aload_n 0, 1) := by decide +kernel
theorem dX4_set_70 : decode cX4_set 70 = .ok (.invokevirtual 44, 3) := by decide +kernel
theorem dX4_set_73 : decode cX4_set 73 = .ok (.iinc 2 1, 3) := by decide +kernel
theorem dX4_set_76 : decode cX4_set 76 = .ok (.goto (-37), 3) := by decide +kernel
theorem dX4_set_79 : decode cX4_set 79 = .ok (.aload_n 0, 1) := by decide +kernel
theorem dX4_set_80 : decode cX4_set 80 = .ok (.iconst 1, 1) := by decide +kernel
theorem dX4_set_81 : decode cX4_set 81 = .ok (.aload_n 0, 1) := by decide +kernel
theorem dX4_set_82 : decode cX4_set 82 = .ok (.getfield 31, 3) := by decide +kernel
theorem dX4_set_85 : decode cX4_set 85 = .ok (.ishl, 1) := by decide +kernel
theorem dX4_set_86 : decode cX4_set 86 = .ok (.iconst 1, 1) := by decide +kernel
theorem dX4_set_87 : decode cX4_set 87 = .ok (.isub, 1) := by decide +kernel
theorem dX4_set_88 : decode cX4_set 88 = .ok (.putfield 47, 3) := by decide +kernel
theorem dX4_set_91 : decode cX4_set 91 = .ok (.iconst 0, 1) := by decide +kernel
theorem dX4_set_92 : decode cX4_set 92 = .ok (.istore_n 2, 1) := by decide +kernel
theorem dX4_set_93 : decode cX4_set 93 = .ok (.iload_n 2, 1) := by decide +kernel
theorem dX4_set_94 : decode cX4_set 94 = .ok (.aload_n 0, 1) := by decide +kernel
theorem dX4_set_95 : decode cX4_set 95 = .ok (.getfield 31, 3) := by decide +kernel
theorem dX4_set_98 : decode cX4_set 98 = .ok (.if_icmp .ge 14, 3) := by decide +kernel
theorem dX4_set_101 : decode cX4_set 101 = .ok (.aload_n 0, 1) := by decide +kernel
theorem dX4_set_102 : decode cX4_set 102 = .ok (.iload_n 2, 1) := by decide +kernel
theorem dX4_set_103 : decode cX4_set 103 = .ok (.invokevirtual 50, 3) := by decide +kernel
theorem dX4_set_106 : decode cX4_set 106 = .ok (.iinc 2 1, 3) := by decide +kernel
theorem dX4_set_109 : decode cX4_set 109 = .ok (.goto (-16), 3) := by decide +kernel
theorem dX4_set_112 : decode cX4_set 112 = .ok (.return_, 1) := by decide +kernel
theorem dX4_readRow_0 : decode cX4_readRow 0 = .ok (.iconst 0, 1) := by decide +kernel
theorem dX4_readRow_1 : decode cX4_readRow 1 = .ok (.istore_n 3, 1) := by decide +kernel
theorem dX4_readRow_2 : decode cX4_readRow 2 = .ok (.iconst 0, 1) := by decide +kernel
theorem dX4_readRow_3 : decode cX4_readRow 3 = .ok (.istore 4, 2) := by decide +kernel
theorem dX4_readRow_5 : decode cX4_readRow 5 = .ok (.iload 4, 2) := by decide +kernel
theorem dX4_readRow_7 : decode cX4_readRow 7 = .ok (.iload_n 1, 1) := by decide +kernel
theorem dX4_readRow_8 : decode cX4_readRow 8 = .ok (.if_icmp .ge 41, 3) := by decide +kernel
theorem dX4_readRow_11 : decode cX4_readRow 11 = .ok (.iload 4, 2) := by decide +kernel
theorem dX4_readRow_13 : decode cX4_readRow 13 = .ok (.aload_n 2, 1) := by decide +kernel
theorem dX4_readRow_14 : decode cX4_readRow 14 = .ok (.arraylength, 1) := by decide +kernel
theorem dX4_readRow_15 : decode cX4_readRow 15 = .ok (.if_icmp .ge 34, 3) := by decide +kernel
theorem dX4_readRow_18 : decode cX4_readRow 18 = .ok (.aload_n 2, 1) := by decide +kernel
theorem dX4_readRow_19 : decode cX4_readRow 19 = .ok (.iload 4, 2) := by decide +kernel
theorem dX4_readRow_21 : decode cX4_readRow 21 = .ok (.iload_n 0, 1) := by decide +kernel
theorem dX4_readRow_22 : decode cX4_readRow 22 = .ok (.iconst 2, 1) := by decide +kernel
theorem dX4_readRow_23 : decode cX4_readRow 23 = .ok (.iload_n 1, 1) := by decide +kernel
theorem dX4_readRow_24 : decode cX4_readRow 24 = .ok (.iconst 1, 1) := by decide +kernel
theorem dX4_readRow_25 : decode cX4_readRow 25 = .ok (.isub, 1) := by decide +kernel
theorem dX4_readRow_26 : decode cX4_readRow 26 = .ok (.iload 4, 2) := by decide +kernel
theorem dX4_readRow_28 : decode cX4_readRow 28 = .ok (.isub, 1) := by decide +kernel
theorem dX4_readRow_29 : decode cX4_readRow 29 = .ok (.imul, 1) := by decide +kernel
theorem dX4_readRow_30 : decode cX4_readRow 30 = .ok (.iushr, 1) := by decide +kernel
theorem dX4_readRow_31 : decode cX4_readRow 31 = .ok (.iconst 3, 1) := by decide +kernel
theorem dX4_readRow_32 : decode cX4_readRow 32 = .ok (.iand, 1) := by decide +kernel
theorem dX4_readRow_33 : decode cX4_readRow 33 = .ok (.iastore, 1) := by decide +kernel
theorem dX4_readRow_34 : decode cX4_readRow 34 = .ok (.iload_n 3, 1) := by decide +kernel
theorem dX4_readRow_35 : decode cX4_readRow 35 = .ok (.iconst 1, 1) := by decide +kernel
theorem dX4_readRow_36 : decode cX4_readRow 36 = .ok (.aload_n 2, 1) := by decide +kernel
theorem dX4_readRow_37 : decode cX4_readRow 37 = .ok (.iload 4, 2) := by decide +kernel
theorem dX4_readRow_39 : decode cX4_readRow 39 = .ok (.iaload, 1) := by decide +kernel
theorem dX4_readRow_40 : decode cX4_readRow 40 = .ok (.ishl, 1) := by decide +kernel
theorem dX4_readRow_41 : decode cX4_readRow 41 = .ok (.ior, 1) := by decide +kernel
theorem dX4_readRow_42 : decode cX4_readRow 42 = .ok (.istore_n 3, 1) := by decide +kernel
theorem dX4_readRow_43 : decode cX4_readRow 43 = .ok (.iinc 4 1, 3) := by decide +kernel
theorem dX4_readRow_46 : decode cX4_readRow 46 = .ok (.goto (-41), 3) := by decide +kernel
theorem dX4_readRow_49 : decode cX4_readRow 49 = .ok (.iload_n 3, 1) := by decide +kernel
theorem dX4_readRow_50 : decode cX4_readRow 50 = .ok (.iconst 1, 1) := by decide +kernel
theorem dX4_readRow_51 : decode cX4_readRow 51 = .ok (.iload_n 1, 1) := by decide +kernel
theorem dX4_readRow_52 : decode cX4_readRow 52 = .ok (.ishl, 1) := by decide +kernel
theorem dX4_readRow_53 : decode cX4_readRow 53 = .ok (.iconst 1, 1) := by decide +kernel
theorem dX4_readRow_54 : decode cX4_readRow 54 = .ok (.isub, 1) := by decide +kernel
theorem dX4_readRow_55 : decode cX4_readRow 55 = .ok (.if_icmp .ne 7, 3) := by decide +kernel
theorem dX4_readRow_58 : decode cX4_readRow 58 = .ok (.iconst 1, 1) := by decide +kernel
theorem dX4_readRow_59 : decode cX4_readRow 59 = .ok (.goto 4, 3) := by decide +kernel
theorem dX4_readRow_62 : decode cX4_readRow 62 = .ok (.iconst 0, 1) := by decide +kernel
theorem dX4_readRow_63 : decode cX4_readRow 63 = .ok (.ireturn, 1) := by decide +kernel
theorem dX4_addRow_0 : decode cX4_addRow 0 = .ok (.iconst 0, 1) := by decide +kernel
theorem dX4_addRow_1 : decode cX4_addRow 1 = .ok (.istore_n 1, 1) := by decide +kernel
theorem dX4_addRow_2 : decode cX4_addRow 2 = .ok (.iload_n 1, 1) := by decide +kernel
theorem dX4_addRow_3 : decode cX4_addRow 3 = .ok (.aload_n 0, 1) := by decide +kernel
theorem dX4_addRow_4 : decode cX4_addRow 4 = .ok (.getfield 27, 3) := by decide +kernel
theorem dX4_addRow_7 : decode cX4_addRow 7 = .ok (.if_icmp .ge 63, 3) := by decide +kernel
theorem dX4_addRow_10 : decode cX4_addRow 10 = .ok (.aload_n 0, 1) := by decide +kernel
theorem dX4_addRow_11 : decode cX4_addRow 11 = .ok (.getfield 24, 3) := by decide +kernel
theorem dX4_addRow_14 : decode cX4_addRow 14 = .ok (.iload_n 1, 1) := by decide +kernel
theorem dX4_addRow_15 : decode cX4_addRow 15 = .ok (.iaload, 1) := by decide +kernel
theorem dX4_addRow_16 : decode cX4_addRow 16 = .ok (.istore_n 2, 1) := by decide +kernel
theorem dX4_addRow_17 : decode cX4_addRow 17 = .ok (.aload_n 0, 1) := by decide +kernel
theorem dX4_addRow_18 : decode cX4_addRow 18 = .ok (.getfield 9, 3) := by decide +kernel
theorem dX4_addRow_21 : decode cX4_addRow 21 = .ok (.aload_n 0, 1) := by decide +kernel
theorem dX4_addRow_22 : decode cX4_addRow 22 = .ok (.getfield 31, 3) := by decide +kernel
theorem dX4_addRow_25 : decode cX4_addRow 25 = .ok (.iconst 4, 1) := by decide +kernel
theorem dX4_addRow_26 : decode cX4_addRow 26 = .ok (.imul, 1) := by decide +kernel
theorem dX4_addRow_27 : decode cX4_addRow 27 = .ok (.iload_n 1, 1) := by decide +kernel
theorem dX4_addRow_28 : decode cX4_addRow 28 = .ok (.iadd, 1) := by decide +kernel
theorem dX4_addRow_29 : decode cX4_addRow 29 = .ok (.iload_n 2, 1) := by decide +kernel
theorem dX4_addRow_30 : decode cX4_addRow 30 = .ok (.iastore, 1) := by decide +kernel
theorem dX4_addRow_31 : decode cX4_addRow 31 = .ok (.aload_n 0, 1) := by decide +kernel
theorem dX4_addRow_32 : decode cX4_addRow 32 = .ok (.getfield 15, 3) := by decide +kernel
theorem dX4_addRow_35 : decode cX4_addRow 35 = .ok (.aload_n 0, 1) := by decide +kernel
theorem dX4_addRow_36 : decode cX4_addRow 36 = .ok (.getfield 31, 3) := by decide +kernel
theorem dX4_addRow_39 : decode cX4_addRow 39 = .ok (.iconst 4, 1) := by decide +kernel
theorem dX4_addRow_40 : decode cX4_addRow 40 = .ok (.imul, 1) := by decide +kernel
theorem dX4_addRow_41 : decode cX4_addRow 41 = .ok (.iload_n 2, 1) := by decide +kernel
theorem dX4_addRow_42 : decode cX4_addRow 42 = .ok (.iadd, 1) := by decide +kernel
theorem dX4_addRow_43 : decode cX4_addRow 43 = .ok (.iload_n 1, 1) := by decide +kernel
theorem dX4_addRow_44 : decode cX4_addRow 44 = .ok (.iastore, 1) := by decide +kernel
theorem dX4_addRow_45 : decode cX4_addRow 45 = .ok (.aload_n 0, 1) := by decide +kernel
theorem dX4_addRow_46 : decode cX4_addRow 46 = .ok (.getfield 18, 3) := by decide +kernel
theorem dX4_addRow_49 : decode cX4_addRow 49 = .ok (.iload_n 1, 1) := by decide +kernel
theorem dX4_addRow_50 : decode cX4_addRow 50 = .ok (.iconst 4, 1) := by decide +kernel
theorem dX4_addRow_51 : decode cX4_addRow 51 = .ok (.imul, 1) := by decide +kernel
theorem dX4_addRow_52 : decode cX4_addRow 52 = .ok (.iload_n 2, 1) := by decide +kernel
theorem dX4_addRow_53 : decode cX4_addRow 53 = .ok (.iadd, 1) := by decide +kernel
theorem dX4_addRow_54 : decode cX4_addRow 54 = .ok (.dup2, 1) := by decide +kernel
theorem dX4_addRow_55 : decode cX4_addRow 55 = .ok (.iaload, 1) := by decide +kernel
theorem dX4_addRow_56 : decode cX4_addRow 56 = .ok (.iconst 1, 1) := by decide +kernel
theorem dX4_addRow_57 : decode cX4_addRow 57 = .ok (.aload_n 0, 1) := by decide +kernel
theorem dX4_addRow_58 : decode cX4_addRow 58 = .ok (.getfield 31, 3) := by decide +kernel
theorem dX4_addRow_61 : decode cX4_addRow 61 = .ok (.ishl, 1) := by decide +kernel
theorem dX4_addRow_62 : decode cX4_addRow 62 = .ok (.ior, 1) := by decide +kernel
theorem dX4_addRow_63 : decode cX4_addRow 63 = .ok (.iastore, 1) := by decide +kernel
theorem dX4_addRow_64 : decode cX4_addRow 64 = .ok (.iinc 1 1, 3) := by decide +kernel
theorem dX4_addRow_67 : decode cX4_addRow 67 = .ok (.goto (-65), 3) := by decide +kernel
theorem dX4_addRow_70 : decode cX4_addRow 70 = .ok (.aload_n 0, 1) := by decide +kernel
theorem dX4_addRow_71 : decode cX4_addRow 71 = .ok (.dup, 1) := by decide +kernel
theorem dX4_addRow_72 : decode cX4_addRow 72 = .ok (.getfield 31, 3) := by decide +kernel
theorem dX4_addRow_75 : decode cX4_addRow 75 = .ok (.iconst 1, 1) := by decide +kernel
theorem dX4_addRow_76 : decode cX4_addRow 76 = .ok (.iadd, 1) := by decide +kernel
theorem dX4_addRow_77 : decode cX4_addRow 77 = .ok (.putfield 31, 3) := by decide +kernel
theorem dX4_addRow_80 : decode cX4_addRow 80 = .ok (.return_, 1) := by decide +kernel
theorem dX4_setSwaps_0 : decode cX4_setSwaps 0 = .ok (.iconst 0, 1) := by decide +kernel
theorem dX4_setSwaps_1 : decode cX4_setSwaps 1 = .ok (.istore_n 2, 1) := by decide +kernel
theorem dX4_setSwaps_2 : decode cX4_setSwaps 2 = .ok (.iconst 0, 1) := by decide +kernel
theorem dX4_setSwaps_3 : decode cX4_setSwaps 3 = .ok (.istore_n 3, 1) := by decide +kernel
theorem dX4_setSwaps_4 : decode cX4_setSwaps 4 = .ok (.iload_n 3, 1) := by decide +kernel
theorem dX4_setSwaps_5 : decode cX4_setSwaps 5 = .ok (.aload_n 0, 1) := by decide +kernel
theorem dX4_setSwaps_6 : decode cX4_setSwaps 6 = .ok (.getfield 27, 3) := by decide +kernel
theorem dX4_setSwaps_9 : decode cX4_setSwaps 9 = .ok (.if_icmp .ge 51, 3) := by decide +kernel
theorem dX4_setSwaps_12 : decode cX4_setSwaps 12 = .ok (.iload_n 3, 1) := by decide +kernel
theorem dX4_setSwaps_13 : decode cX4_setSwaps 13 = .ok (.iconst 1, 1) := by decide +kernel
theorem dX4_setSwaps_14 : decode cX4_setSwaps 14 = .ok (.iadd, 1) := by decide +kernel
theorem dX4_setSwaps_15 : decode cX4_setSwaps 15 = .ok (.istore 4, 2) := by decide +kernel
theorem dX4_setSwaps_17 : decode cX4_setSwaps 17 = .ok (.iload 4, 2) := by decide +kernel
theorem dX4_setSwaps_19 : decode cX4_setSwaps 19 = .ok (.aload_n 0, 1) := by decide +kernel
theorem dX4_setSwaps_20 : decode cX4_setSwaps 20 = .ok (.getfield 27, 3) := by decide +kernel
theorem dX4_setSwaps_23 : decode cX4_setSwaps 23 = .ok (.if_icmp .ge 31, 3) := by decide +kernel
theorem dX4_setSwaps_26 : decode cX4_setSwaps 26 = .ok (.aload_n 0, 1) := by decide +kernel
theorem dX4_setSwaps_27 : decode cX4_setSwaps 27 = .ok (.getfield 21, 3) := by decide +kernel
theorem dX4_setSwaps_30 : decode cX4_setSwaps 30 = .ok (.iload_n 1, 1) := by decide +kernel
theorem dX4_setSwaps_31 : decode cX4_setSwaps 31 = .ok (.bipush 6, 2) := by decide +kernel
theorem dX4_setSwaps_33 : decode cX4_setSwaps 33 = .ok (.imul, 1) := by decide +kernel
theorem dX4_setSwaps_34 : decode cX4_setSwaps 34 = .ok (.iload_n 2, 1) := by decide +kernel
theorem dX4_setSwaps_35 : decode cX4_setSwaps 35 = .ok (.iadd, 1) := by decide +kernel
theorem dX4_setSwaps_36 : decode cX4_setSwaps 36 = .ok (.aload_n 0, 1) := by decide +kernel
theorem dX4_setSwaps_37 : decode cX4_setSwaps 37 = .ok (.iload_n 1, 1) := by decide +kernel
theorem dX4_setSwaps_38 : decode cX4_setSwaps 38 = .ok (.iload_n 3, 1) := by decide +kernel
theorem dX4_setSwaps_39 : decode cX4_setSwaps 39 = .ok (.iload 4, 2) := by decide +kernel
theorem dX4_setSwaps_41 : decode cX4_setSwaps 41 = .ok (.invokevirtual 54, 3) := by decide +kernel
theorem dX4_setSwaps_44 : decode cX4_setSwaps 44 = .ok (.iastore, 1) := by decide +kernel
theorem dX4_setSwaps_45 : decode cX4_setSwaps 45 = .ok (.iinc 2 1, 3) := by decide +kernel
theorem dX4_setSwaps_48 : decode cX4_setSwaps 48 = .ok (.iinc 4 1, 3) := by decide +kernel
theorem dX4_setSwaps_51 : decode cX4_setSwaps 51 = .ok (.goto (-34), 3) := by decide +kernel
theorem dX4_setSwaps_54 : decode cX4_setSwaps 54 = .ok (.iinc 3 1, 3) := by decide +kernel
theorem dX4_setSwaps_57 : decode cX4_setSwaps 57 = .ok (.goto (-53), 3) := by decide +kernel
theorem dX4_setSwaps_60 : decode cX4_setSwaps 60 = .ok (.aload_n 0, 1) := by decide +kernel
theorem dX4_setSwaps_61 : decode cX4_setSwaps 61 = .ok (.iload_n 2, 1) := by decide +kernel
theorem dX4_setSwaps_62 : decode cX4_setSwaps 62 = .ok (.putfield 58, 3) := by decide +kernel
theorem dX4_setSwaps_65 : decode cX4_setSwaps 65 = .ok (.return_, 1) := by decide +kernel
theorem dX4_rankWithSwapped_0 : decode cX4_rankWithSwapped 0 = .ok (.aload_n 0, 1) := by decide +kernel
theorem dX4_rankWithSwapped_1 : decode cX4_rankWithSwapped 1 = .ok (.getfield 47, 3) := by decide +kernel
theorem dX4_rankWithSwapped_4 : decode cX4_rankWithSwapped 4 = .ok (.istore 4, 2) := by decide +kernel
theorem dX4_rankWithSwapped_6 : decode cX4_rankWithSwapped 6 = .ok (.iconst 0, 1) := by decide +kernel
theorem dX4_rankWithSwapped_7 : decode cX4_rankWithSwapped 7 = .ok (.istore 5, 2) := by decide +kernel
theorem dX4_rankWithSwapped_9 : decode cX4_rankWithSwapped 9 = .ok (.iload 5, 2) := by decide +kernel
theorem dX4_rankWithSwapped_11 : decode cX4_rankWithSwapped 11 = .ok (.aload_n 0, 1) := by decide +kernel
theorem dX4_rankWithSwapped_12 : decode cX4_rankWithSwapped 12 = .ok (.getfield 27, 3) := by decide +kernel
theorem dX4_rankWithSwapped_15 : decode cX4_rankWithSwapped 15 = .ok (.if_icmp .ge 59, 3) := by decide +kernel
theorem dX4_rankWithSwapped_18 : decode cX4_rankWithSwapped 18 = .ok (.aload_n 0, 1) := by decide +kernel
theorem dX4_rankWithSwapped_19 : decode cX4_rankWithSwapped 19 = .ok (.iload_n 1, 1) := by decide +kernel
theorem dX4_rankWithSwapped_20 : decode cX4_rankWithSwapped 20 = .ok (.iload 5, 2) := by decide +kernel
theorem dX4_rankWithSwapped_22 : decode cX4_rankWithSwapped 22 = .ok (.invokevirtual 61, 3) := by decide +kernel
theorem dX4_rankWithSwapped_25 : decode cX4_rankWithSwapped 25 = .ok (.istore 6, 2) := by decide +kernel
theorem dX4_rankWithSwapped_27 : decode cX4_rankWithSwapped 27 = .ok (.iload 6, 2) := by decide +kernel
theorem dX4_rankWithSwapped_29 : decode cX4_rankWithSwapped 29 = .ok (.iload_n 2, 1) := by decide +kernel
theorem dX4_rankWithSwapped_30 : decode cX4_rankWithSwapped 30 = .ok (.if_icmp .ne 7, 3) := by decide +kernel
theorem dX4_rankWithSwapped_33 : decode cX4_rankWithSwapped 33 = .ok (.iload_n 3, 1) := by decide +kernel
theorem dX4_rankWithSwapped_34 : decode cX4_rankWithSwapped 34 = .ok (.goto 15, 3) := by decide +kernel
theorem dX4_rankWithSwapped_37 : decode cX4_rankWithSwapped 37 = .ok (.iload 6, 2) := by decide +kernel
theorem dX4_rankWithSwapped_39 : decode cX4_rankWithSwapped 39 = .ok (.iload_n 3, 1) := by decide +kernel
theorem dX4_rankWithSwapped_40 : decode cX4_rankWithSwapped 40 = .ok (.if_icmp .ne 7, 3) := by decide +kernel
theorem dX4_rankWithSwapped_43 : decode cX4_rankWithSwapped 43 = .ok (.iload_n 2, 1) := by decide +kernel
theorem dX4_rankWithSwapped_44 : decode cX4_rankWithSwapped 44 = .ok (.goto 5, 3) := by decide +kernel
theorem dX4_rankWithSwapped_47 : decode cX4_rankWithSwapped 47 = .ok (.iload 6, 2) := by decide +kernel
theorem dX4_rankWithSwapped_49 : decode cX4_rankWithSwapped 49 = .ok (.istore 7, 2) := by decide +kernel
theorem dX4_rankWithSwapped_51 : decode cX4_rankWithSwapped 51 = .ok (.iload 4, 2) := by decide +kernel
theorem dX4_rankWithSwapped_53 : decode cX4_rankWithSwapped 53 = .ok (.aload_n 0, 1) := by decide +kernel
theorem dX4_rankWithSwapped_54 : decode cX4_rankWithSwapped 54 = .ok (.getfield 18, 3) := by decide +kernel
theorem dX4_rankWithSwapped_57 : decode cX4_rankWithSwapped 57 = .ok (.iload 5, 2) := by decide +kernel
theorem dX4_rankWithSwapped_59 : decode cX4_rankWithSwapped 59 = .ok (.iconst 4, 1) := by decide +kernel
theorem dX4_rankWithSwapped_60 : decode cX4_rankWithSwapped 60 = .ok (.imul, 1) := by decide +kernel
theorem dX4_rankWithSwapped_61 : decode cX4_rankWithSwapped 61 = .ok (.iload 7, 2) := by decide +kernel
theorem dX4_rankWithSwapped_63 : decode cX4_rankWithSwapped 63 = .ok (.iadd, 1) := by decide +kernel
theorem dX4_rankWithSwapped_64 : decode cX4_rankWithSwapped 64 = .ok (.iaload, 1) := by decide +kernel
theorem dX4_rankWithSwapped_65 : decode cX4_rankWithSwapped 65 = .ok (.iand, 1) := by decide +kernel
theorem dX4_rankWithSwapped_66 : decode cX4_rankWithSwapped 66 = .ok (.istore 4, 2) := by decide +kernel
theorem dX4_rankWithSwapped_68 : decode cX4_rankWithSwapped 68 = .ok (.iinc 5 1, 3) := by decide +kernel
theorem dX4_rankWithSwapped_71 : decode cX4_rankWithSwapped 71 = .ok (.goto (-62), 3) := by decide +kernel
theorem dX4_rankWithSwapped_74 : decode cX4_rankWithSwapped 74 = .ok (.iload 4, 2) := by decide +kernel
theorem dX4_rankWithSwapped_76 : decode cX4_rankWithSwapped 76 = .ok (.invokestatic 65, 3) := by decide +kernel
theorem dX4_rankWithSwapped_79 : decode cX4_rankWithSwapped 79 = .ok (.ireturn, 1) := by decide +kernel
theorem dX4_groupAt_0 : decode cX4_groupAt 0 = .ok (.aload_n 0, 1) := by decide +kernel
theorem dX4_groupAt_1 : decode cX4_groupAt 1 = .ok (.getfield 9, 3) := by decide +kernel
theorem dX4_groupAt_4 : decode cX4_groupAt 4 = .ok (.iload_n 1, 1) := by decide +kernel
theorem dX4_groupAt_5 : decode cX4_groupAt 5 = .ok (.iconst 4, 1) := by decide +kernel
theorem dX4_groupAt_6 : decode cX4_groupAt 6 = .ok (.imul, 1) := by decide +kernel
theorem dX4_groupAt_7 : decode cX4_groupAt 7 = .ok (.iload_n 2, 1) := by decide +kernel
theorem dX4_groupAt_8 : decode cX4_groupAt 8 = .ok (.iadd, 1) := by decide +kernel
theorem dX4_groupAt_9 : decode cX4_groupAt 9 = .ok (.iaload, 1) := by decide +kernel
theorem dX4_groupAt_10 : decode cX4_groupAt 10 = .ok (.ireturn, 1) := by decide +kernel
theorem dX4_only_0 : decode cX4_only 0 = .ok (.iload_n 0, 1) := by decide +kernel
theorem dX4_only_1 : decode cX4_only 1 = .ok (.ifCond .ne 7, 3) := by decide +kernel
theorem dX4_only_4 : decode cX4_only 4 = .ok (.iconst 0, 1) := by decide +kernel
theorem dX4_only_5 : decode cX4_only 5 = .ok (.goto 12, 3) := by decide +kernel
theorem dX4_only_8 : decode cX4_only 8 = .ok (.iload_n 0, 1) := by decide +kernel
theorem dX4_only_9 : decode cX4_only 9 = .ok (.iload_n 0, 1) := by decide +kernel
theorem dX4_only_10 : decode cX4_only 10 = .ok (.ineg, 1) := by decide +kernel
theorem dX4_only_11 : decode cX4_only 11 = .ok (.iand, 1) := by decide +kernel
theorem dX4_only_12 : decode cX4_only 12 = .ok (.iconst 1, 1) := by decide +kernel
theorem dX4_only_13 : decode cX4_only 13 = .ok (.isub, 1) := by decide +kernel
theorem dX4_only_14 : decode cX4_only 14 = .ok (.invokestatic 69, 3) := by decide +kernel
theorem dX4_only_17 : decode cX4_only 17 = .ok (.ireturn, 1) := by decide +kernel
theorem dX5_readLines_0 : decode cX5_readLines 0 = .ok (.aload_n 0, 1) := by decide +kernel
theorem dX5_readLines_1 : decode cX5_readLines 1 = .ok (.iload_n 1, 1) := by decide +kernel
theorem dX5_readLines_2 : decode cX5_readLines 2 = .ok (.aload_n 0, 1) := by decide +kernel
theorem dX5_readLines_3 : decode cX5_readLines 3 = .ok (.getfield 22, 3) := by decide +kernel
theorem dX5_readLines_6 : decode cX5_readLines 6 = .ok (.arraylength, 1) := by decide +kernel
theorem dX5_readLines_7 : decode cX5_readLines 7 = .ok (.invokestatic 26, 3) := by decide +kernel
theorem dX5_readLines_10 : decode cX5_readLines 10 = .ok (.putfield 32, 3) := by decide +kernel
theorem dX5_readLines_13 : decode cX5_readLines 13 = .ok (.aload_n 0, 1) := by decide +kernel
theorem dX5_readLines_14 : decode cX5_readLines 14 = .ok (.iconst 0, 1) := by decide +kernel
theorem dX5_readLines_15 : decode cX5_readLines 15 = .ok (.putfield 35, 3) := by decide +kernel
theorem dX5_readLines_18 : decode cX5_readLines 18 = .ok (.aload_n 0, 1) := by decide +kernel
theorem dX5_readLines_19 : decode cX5_readLines 19 = .ok (.iconst 0, 1) := by decide +kernel
theorem dX5_readLines_20 : decode cX5_readLines 20 = .ok (.putfield 38, 3) := by decide +kernel
theorem dX5_readLines_23 : decode cX5_readLines 23 = .ok (.aload_n 0, 1) := by decide +kernel
theorem dX5_readLines_24 : decode cX5_readLines 24 = .ok (.iconst (-1), 1) := by decide +kernel
theorem dX5_readLines_25 : decode cX5_readLines 25 = .ok (.putfield 18, 3) := by decide +kernel
theorem dX5_readLines_28 : decode cX5_readLines 28 = .ok (.aload_n 0, 1) := by decide +kernel
theorem dX5_readLines_29 : decode cX5_readLines 29 = .ok (.getfield 12, 3) := by decide +kernel
theorem dX5_readLines_32 : decode cX5_readLines 32 = .ok (.invokevirtual 41, 3) := by decide +kernel
theorem dX5_readLines_35 : decode cX5_readLines 35 = .ok (.aload_n 0, 1) := by decide +kernel
theorem dX5_readLines_36 : decode cX5_readLines 36 = .ok (.invokevirtual 44, 3) := by decide +kernel
theorem dX5_readLines_39 : decode cX5_readLines 39 = .ok (.iconst 0, 1) := by decide +kernel
theorem dX5_readLines_40 : decode cX5_readLines 40 = .ok (.istore_n 2, 1) := by decide +kernel
theorem dX5_readLines_41 : decode cX5_readLines 41 = .ok (.iconst 0, 1) := by decide +kernel
theorem dX5_readLines_42 : decode cX5_readLines 42 = .ok (.istore_n 3, 1) := by decide +kernel
theorem dX5_readLines_43 : decode cX5_readLines 43 = .ok (.iload_n 3, 1) := by decide +kernel
theorem dX5_readLines_44 : decode cX5_readLines 44 = .ok (.aload_n 0, 1) := by decide +kernel
theorem dX5_readLines_45 : decode cX5_readLines 45 = .ok (.getfield 32, 3) := by decide +kernel
theorem dX5_readLines_48 : decode cX5_readLines 48 = .ok (.if_icmp .gt 42, 3) := by decide +kernel
theorem dX5_readLines_51 : decode cX5_readLines 51 = .ok (.aload_n 0, 1) := by decide +kernel
theorem dX5_readLines_52 : decode cX5_readLines 52 = .ok (.getfield 47, 3) := by decide +kernel
theorem dX5_readLines_55 : decode cX5_readLines 55 = .ok (.ifCond .eq 35, 3) := by decide +kernel
theorem dX5_readLines_58 : decode cX5_readLines 58 = .ok (.aload_n 0, 1) := by decide +kernel
theorem dX5_readLines_59 : decode cX5_readLines 59 = .ok (.getfield 38, 3) := by decide +kernel
theorem dX5_readLines_62 : decode cX5_readLines 62 = .ok (.ifCond .ne 28, 3) := by decide +kernel
theorem dX5_readLines_65 : decode cX5_readLines 65 = .ok (.aload_n 0, 1) := by decide +kernel
theorem dX5_readLines_66 : decode cX5_readLines 66 = .ok (.iload_n 2, 1) := by decide +kernel
theorem dX5_readLines_67 : decode cX5_readLines 67 = .ok (.ifCond .ne 7, 3) := by decide +kernel
theorem dX5_readLines_70 : decode cX5_readLines 70 = .ok (.iconst 1, 1) := by decide +kernel
theorem dX5_readLines_71 : decode cX5_readLines 71 = .ok (.goto 4, 3) := by decide +kernel
theorem dX5_readLines_74 : decode cX5_readLines 74 = .ok (.iconst 0, 1) := by decide +kernel
theorem dX5_readLines_75 : decode cX5_readLines 75 = .ok (.invokevirtual 50, 3) := by decide +kernel
theorem dX5_readLines_78 : decode cX5_readLines 78 = .ok (.ifCond .eq 6, 3) := by decide +kernel
theorem dX5_readLines_81 : decode cX5_readLines 81 = .ok (.iinc 2 1, 3) := by decide +kernel
theorem dX5_readLines_84 : decode cX5_readLines 84 = .ok (.iinc 3 1, 3) := by decide +kernel
theorem dX5_readLines_87 : decode cX5_readLines 87 = .ok (.goto (-44), 3) := by decide +kernel
theorem dX5_readLines_90 : decode cX5_readLines 90 = .ok (.iload_n 2, 1) := by decide +kernel
theorem dX5_readLines_91 : decode cX5_readLines 91 = .ok (.ireturn, 1) := by decide +kernel
theorem dX5_fail_0 : decode cX5_fail 0 = .ok (.aload_n 0, 1) := by decide +kernel
theorem dX5_fail_1 : decode cX5_fail 1 = .ok (.iload_n 1, 1) := by decide +kernel
theorem dX5_fail_2 : decode cX5_fail 2 = .ok (.putfield 38, 3) := by decide +kernel
theorem dX5_fail_5 : decode cX5_fail 5 = .ok (.aload_n 0, 1) := by decide +kernel
theorem dX5_fail_6 : decode cX5_fail 6 = .ok (.aload_n 0, 1) := by decide +kernel
theorem dX5_fail_7 : decode cX5_fail 7 = .ok (.getfield 54, 3) := by decide +kernel
theorem dX5_fail_10 : decode cX5_fail 10 = .ok (.putfield 18, 3) := by decide +kernel
theorem dX5_fail_13 : decode cX5_fail 13 = .ok (.iconst 0, 1) := by decide +kernel
theorem dX5_fail_14 : decode cX5_fail 14 = .ok (.ireturn, 1) := by decide +kernel
theorem dX5_step_0 : decode cX5_step 0 = .ok (.aload_n 0, 1) := by decide +kernel
theorem dX5_step_1 : decode cX5_step 1 = .ok (.getfield 35, 3) := by decide +kernel
theorem dX5_step_4 : decode cX5_step 4 = .ok (.aload_n 0, 1) := by decide +kernel
theorem dX5_step_5 : decode cX5_step 5 = .ok (.getfield 32, 3) := by decide +kernel
theorem dX5_step_8 : decode cX5_step 8 = .ok (.if_icmp .ge 31, 3) := by decide +kernel
theorem dX5_step_11 : decode cX5_step 11 = .ok (.aload_n 0, 1) := by decide +kernel
theorem dX5_step_12 : decode cX5_step 12 = .ok (.getfield 22, 3) := by decide +kernel
theorem dX5_step_15 : decode cX5_step 15 = .ok (.aload_n 0, 1) := by decide +kernel
theorem dX5_step_16 : decode cX5_step 16 = .ok (.getfield 35, 3) := by decide +kernel
theorem dX5_step_19 : decode cX5_step 19 = .ok (.iaload, 1) := by decide +kernel
theorem dX5_step_20 : decode cX5_step 20 = .ok (.invokestatic 57, 3) := by decide +kernel
theorem dX5_step_23 : decode cX5_step 23 = .ok (.ifCond .eq 16, 3) := by decide +kernel
theorem dX5_step_26 : decode cX5_step 26 = .ok (.aload_n 0, 1) := by decide +kernel
theorem dX5_step_27 : decode cX5_step 27 = .ok (.dup, 1) := by decide +kernel
theorem dX5_step_28 : decode cX5_step 28 = .ok (.getfield 35, 3) := by decide +kernel
theorem dX5_step_31 : decode cX5_step 31 = .ok (.iconst 1, 1) := by decide +kernel
theorem dX5_step_32 : decode cX5_step 32 = .ok (.iadd, 1) := by decide +kernel
theorem dX5_step_33 : decode cX5_step 33 = .ok (.putfield 35, 3) := by decide +kernel
theorem dX5_step_36 : decode cX5_step 36 = .ok (.goto (-36), 3) := by decide +kernel
theorem dX5_step_39 : decode cX5_step 39 = .ok (.aload_n 0, 1) := by decide +kernel
theorem dX5_step_40 : decode cX5_step 40 = .ok (.aload_n 0, 1) := by decide +kernel
theorem dX5_step_41 : decode cX5_step 41 = .ok (.getfield 35, 3) := by decide +kernel
theorem dX5_step_44 : decode cX5_step 44 = .ok (.putfield 54, 3) := by decide +kernel
theorem dX5_step_47 : decode cX5_step 47 = .ok (.aload_n 0, 1) := by decide +kernel
theorem dX5_step_48 : decode cX5_step 48 = .ok (.getfield 35, 3) := by decide +kernel
theorem dX5_step_51 : decode cX5_step 51 = .ok (.aload_n 0, 1) := by decide +kernel
theorem dX5_step_52 : decode cX5_step 52 = .ok (.getfield 32, 3) := by decide +kernel
theorem dX5_step_55 : decode cX5_step 55 = .ok (.if_icmp .lt 11, 3) := by decide +kernel
theorem dX5_step_58 : decode cX5_step 58 = .ok (.aload_n 0, 1) := by decide +kernel
theorem dX5_step_59 : decode cX5_step 59 = .ok (.iconst 0, 1) := by decide +kernel
theorem dX5_step_60 : decode cX5_step 60 = .ok (.putfield 47, 3) := by decide +kernel
theorem dX5_step_63 : decode cX5_step 63 = .ok (.goto 80, 3) := by decide +kernel
theorem dX5_step_66 : decode cX5_step 66 = .ok (.aload_n 0, 1) := by decide +kernel
theorem dX5_step_67 : decode cX5_step 67 = .ok (.getfield 22, 3) := by decide +kernel
theorem dX5_step_70 : decode cX5_step 70 = .ok (.aload_n 0, 1) := by decide +kernel
theorem dX5_step_71 : decode cX5_step 71 = .ok (.getfield 35, 3) := by decide +kernel
theorem dX5_step_74 : decode cX5_step 74 = .ok (.iaload, 1) := by decide +kernel
theorem dX5_step_75 : decode cX5_step 75 = .ok (.invokestatic 61, 3) := by decide +kernel
theorem dX5_step_78 : decode cX5_step 78 = .ok (.ifCond .eq 10, 3) := by decide +kernel
theorem dX5_step_81 : decode cX5_step 81 = .ok (.aload_n 0, 1) := by decide +kernel
theorem dX5_step_82 : decode cX5_step 82 = .ok (.invokevirtual 64, 3) := by decide +kernel
theorem dX5_step_85 : decode cX5_step 85 = .ok (.goto 58, 3) := by decide +kernel
theorem dX5_step_88 : decode cX5_step 88 = .ok (.aload_n 0, 1) := by decide +kernel
theorem dX5_step_89 : decode cX5_step 89 = .ok (.getfield 22, 3) := by decide +kernel
theorem dX5_step_92 : decode cX5_step 92 = .ok (.aload_n 0, 1) := by decide +kernel
theorem dX5_step_93 : decode cX5_step 93 = .ok (.getfield 35, 3) := by decide +kernel
theorem dX5_step_96 : decode cX5_step 96 = .ok (.iaload, 1) := by decide +kernel
theorem dX5_step_97 : decode cX5_step 97 = .ok (.invokestatic 67, 3) := by decide +kernel
theorem dX5_step_100 : decode cX5_step 100 = .ok (.ifCond .eq 10, 3) := by decide +kernel
theorem dX5_step_103 : decode cX5_step 103 = .ok (.aload_n 0, 1) := by decide +kernel
theorem dX5_step_104 : decode cX5_step 104 = .ok (.invokevirtual 70, 3) := by decide +kernel
theorem dX5_step_107 : decode cX5_step 107 = .ok (.goto 36, 3) := by decide +kernel
theorem dX5_step_110 : decode cX5_step 110 = .ok (.aload_n 0, 1) := by decide +kernel
theorem dX5_step_111 : decode cX5_step 111 = .ok (.aload_n 0, 1) := by decide +kernel
theorem dX5_step_112 : decode cX5_step 112 = .ok (.getfield 22, 3) := by decide +kernel
theorem dX5_step_115 : decode cX5_step 115 = .ok (.aload_n 0, 1) := by decide +kernel
theorem dX5_step_116 : decode cX5_step 116 = .ok (.getfield 35, 3) := by decide +kernel
theorem dX5_step_119 : decode cX5_step 119 = .ok (.iaload, 1) := by decide +kernel
theorem dX5_step_120 : decode cX5_step 120 = .ok (.bipush 59, 2) := by decide +kernel
theorem dX5_step_122 : decode cX5_step 122 = .ok (.if_icmp .ne 7, 3) := by decide +kernel
theorem dX5_step_125 : decode cX5_step 125 = .ok (.iconst 3, 1) := by decide +kernel
theorem dX5_step_126 : decode cX5_step 126 = .ok (.goto 4, 3) := by decide +kernel
theorem dX5_step_129 : decode cX5_step 129 = .ok (.iconst 4, 1) := by decide +kernel
theorem dX5_step_130 : decode cX5_step 130 = .ok (.putfield 47, 3) := by decide +kernel
theorem dX5_step_133 : decode cX5_step 133 = .ok (.aload_n 0, 1) := by decide +kernel
theorem dX5_step_134 : decode cX5_step 134 = .ok (.dup, 1) := by decide +kernel
theorem dX5_step_135 : decode cX5_step 135 = .ok (.getfield 35, 3) := by decide +kernel
theorem dX5_step_138 : decode cX5_step 138 = .ok (.iconst 1, 1) := by decide +kernel
theorem dX5_step_139 : decode cX5_step 139 = .ok (.iadd, 1) := by decide +kernel
theorem dX5_step_140 : decode cX5_step 140 = .ok (.putfield 35, 3) := by decide +kernel
theorem dX5_step_143 : decode cX5_step 143 = .ok (.return_, 1) := by decide +kernel
theorem dX5_stepWord_0 : decode cX5_stepWord 0 = .ok (.iconst 0, 1) := by decide +kernel
theorem dX5_stepWord_1 : decode cX5_stepWord 1 = .ok (.istore_n 1, 1) := by decide +kernel
theorem dX5_stepWord_2 : decode cX5_stepWord 2 = .ok (.aload_n 0, 1) := by decide +kernel
theorem dX5_stepWord_3 : decode cX5_stepWord 3 = .ok (.iconst 0, 1) := by decide +kernel
theorem dX5_stepWord_4 : decode cX5_stepWord 4 = .ok (.putfield 73, 3) := by decide +kernel
theorem dX5_stepWord_7 : decode cX5_stepWord 7 = .ok (.aload_n 0, 1) := by decide +kernel
theorem dX5_stepWord_8 : decode cX5_stepWord 8 = .ok (.getfield 35, 3) := by decide +kernel
theorem dX5_stepWord_11 : decode cX5_stepWord 11 = .ok (.aload_n 0, 1) := by decide +kernel
theorem dX5_stepWord_12 : decode cX5_stepWord 12 = .ok (.getfield 32, 3) := by decide +kernel
theorem dX5_stepWord_15 : decode cX5_stepWord 15 = .ok (.if_icmp .ge 70, 3) := by decide +kernel
theorem dX5_stepWord_18 : decode cX5_stepWord 18 = .ok (.aload_n 0, 1) := by decide +kernel
theorem dX5_stepWord_19 : decode cX5_stepWord 19 = .ok (.getfield 22, 3) := by decide +kernel
theorem dX5_stepWord_22 : decode cX5_stepWord 22 = .ok (.aload_n 0, 1) := by decide +kernel
theorem dX5_stepWord_23 : decode cX5_stepWord 23 = .ok (.getfield 35, 3) := by decide +kernel
theorem dX5_stepWord_26 : decode cX5_stepWord 26 = .ok (.iaload, 1) := by decide +kernel
theorem dX5_stepWord_27 : decode cX5_stepWord 27 = .ok (.invokestatic 61, 3) := by decide +kernel
theorem dX5_stepWord_30 : decode cX5_stepWord 30 = .ok (.ifCond .eq 55, 3) := by decide +kernel
theorem dX5_stepWord_33 : decode cX5_stepWord 33 = .ok (.iload_n 1, 1) := by decide +kernel
theorem dX5_stepWord_34 : decode cX5_stepWord 34 = .ok (.bipush 6, 2) := by decide +kernel
theorem dX5_stepWord_36 : decode cX5_stepWord 36 = .ok (.if_icmp .ge 33, 3) := by decide +kernel
theorem dX5_stepWord_39 : decode cX5_stepWord 39 = .ok (.aload_n 0, 1) := by decide +kernel
theorem dX5_stepWord_40 : decode cX5_stepWord 40 = .ok (.dup, 1) := by decide +kernel
theorem dX5_stepWord_41 : decode cX5_stepWord 41 = .ok (.getfield 73, 3) := by decide +kernel
theorem dX5_stepWord_44 : decode cX5_stepWord 44 = .ok (.aload_n 0, 1) := by decide +kernel
theorem dX5_stepWord_45 : decode cX5_stepWord 45 = .ok (.getfield 22, 3) := by decide +kernel
theorem dX5_stepWord_48 : decode cX5_stepWord 48 = .ok (.aload_n 0, 1) := by decide +kernel
theorem dX5_stepWord_49 : decode cX5_stepWord 49 = .ok (.getfield 35, 3) := by decide +kernel
theorem dX5_stepWord_52 : decode cX5_stepWord 52 = .ok (.iaload, 1) := by decide +kernel
theorem dX5_stepWord_53 : decode cX5_stepWord 53 = .ok (.bipush 97, 2) := by decide +kernel
theorem dX5_stepWord_55 : decode cX5_stepWord 55 = .ok (.isub, 1) := by decide +kernel
theorem dX5_stepWord_56 : decode cX5_stepWord 56 = .ok (.iconst 1, 1) := by decide +kernel
theorem dX5_stepWord_57 : decode cX5_stepWord 57 = .ok (.iadd, 1) := by decide +kernel
theorem dX5_stepWord_58 : decode cX5_stepWord 58 = .ok (.bipush 25, 2) := by decide +kernel
theorem dX5_stepWord_60 : decode cX5_stepWord 60 = .ok (.iconst 5, 1) := by decide +kernel
theorem dX5_stepWord_61 : decode cX5_stepWord 61 = .ok (.iload_n 1, 1) := by decide +kernel
theorem dX5_stepWord_62 : decode cX5_stepWord 62 = .ok (.imul, 1) := by decide +kernel
theorem dX5_stepWord_63 : decode cX5_stepWord 63 = .ok (.isub, 1) := by decide +kernel
theorem dX5_stepWord_64 : decode cX5_stepWord 64 = .ok (.ishl, 1) := by decide +kernel
theorem dX5_stepWord_65 : decode cX5_stepWord 65 = .ok (.ior, 1) := by decide +kernel
theorem dX5_stepWord_66 : decode cX5_stepWord 66 = .ok (.putfield 73, 3) := by decide +kernel
theorem dX5_stepWord_69 : decode cX5_stepWord 69 = .ok (.iinc 1 1, 3) := by decide +kernel
theorem dX5_stepWord_72 : decode cX5_stepWord 72 = .ok (.aload_n 0, 1) := by decide +kernel
theorem dX5_stepWord_73 : decode cX5_stepWord 73 = .ok (.dup, 1) := by decide +kernel
theorem dX5_stepWord_74 : decode cX5_stepWord 74 = .ok (.getfield 35, 3) := by decide +kernel
theorem dX5_stepWord_77 : decode cX5_stepWord 77 = .ok (.iconst 1, 1) := by decide +kernel
theorem dX5_stepWord_78 : decode cX5_stepWord 78 = .ok (.iadd, 1) := by decide +kernel
theorem dX5_stepWord_79 : decode cX5_stepWord 79 = .ok (.putfield 35, 3) := by decide +kernel
theorem dX5_stepWord_82 : decode cX5_stepWord 82 = .ok (.goto (-75), 3) := by decide +kernel
theorem dX5_stepWord_85 : decode cX5_stepWord 85 = .ok (.aload_n 0, 1) := by decide +kernel
theorem dX5_stepWord_86 : decode cX5_stepWord 86 = .ok (.iload_n 1, 1) := by decide +kernel
theorem dX5_stepWord_87 : decode cX5_stepWord 87 = .ok (.bipush 6, 2) := by decide +kernel
theorem dX5_stepWord_89 : decode cX5_stepWord 89 = .ok (.if_icmp .gt 7, 3) := by decide +kernel
theorem dX5_stepWord_92 : decode cX5_stepWord 92 = .ok (.iconst 1, 1) := by decide +kernel
theorem dX5_stepWord_93 : decode cX5_stepWord 93 = .ok (.goto 4, 3) := by decide +kernel
theorem dX5_stepWord_96 : decode cX5_stepWord 96 = .ok (.iconst 4, 1) := by decide +kernel
theorem dX5_stepWord_97 : decode cX5_stepWord 97 = .ok (.putfield 47, 3) := by decide +kernel
theorem dX5_stepWord_100 : decode cX5_stepWord 100 = .ok (.return_, 1) := by decide +kernel
theorem dX5_stepNumber_0 : decode cX5_stepNumber 0 = .ok (.aload_n 0, 1) := by decide +kernel
