theorem goodIn_r {big : List Cond} (ws : List Cond) (ps : List Nat) (hp : ws = ps.filterMap (fun i => big[i]?)) (h : ws.all goodWord = true) : GoodIn big ws := by
  intro w hw
  have h1 := List.all_eq_true.mp h w hw
  rw [hp] at hw
  obtain ⟨i, -, hi⟩ := List.mem_filterMap.mp hw
  have hm : w ∈ big := by first | exact List.mem_of_getElem? hi | exact List.getElem?_mem hi
  exact ⟨hm, good_of_word h1⟩
theorem goodIn_ca {big a b : List Cond} {c : Cond} (ha : GoodIn big (c :: a)) (hb : GoodIn big b) : GoodIn big (c :: (a ++ b)) := fun w h => (List.mem_cons.mp h).elim (fun e => ha w (List.mem_cons.mpr (Or.inl e))) (fun h => (List.mem_append.mp h).elim (fun h => ha w (List.mem_cons.mpr (Or.inr h))) (hb w))
def vx_no (w : Cond) : Bool := decide (w ≠ .isRef (.static Bundle.tN "UNASSIGNED_STACK" Bundle.steD)) && decide (w ≠ .isRef (.static Bundle.tN "SUPPRESSED_SENTINEL" Bundle.listD)) && decide (w ≠ .laysStatic Bundle.tN "UNASSIGNED_STACK" Bundle.steD) && decide (w ≠ .laysStatic Bundle.tN "SUPPRESSED_SENTINEL" Bundle.listD)
def vx_atS (own : String) (ic : Nat) (X : String) (names : List String) : List Cond := (Bundle.ownAtoms own ic X names).filter vx_no
def vx_atM (X : String) (names : List String) : List Cond := (Bundle.messageArmAtoms X names).filter vx_no
abbrev cX11_arrange : ByteArray := prog_1_method_21_code
def yX11_arrange : MethodName := ⟨RX11, "arrange", "(I)Z"⟩
abbrev cX11_look : ByteArray := prog_1_method_57_code
def yX11_look : MethodName := ⟨RX11, "look", "(II)I"⟩
abbrev cX12_thrown : ByteArray := prog_14_method_2_code
def yX12_thrown : MethodName := ⟨RX12, "thrown", "()I"⟩
abbrev cX12_arrange : ByteArray := prog_14_method_39_code
def yX12_arrange : MethodName := ⟨RX12, "arrange", "(I)Z"⟩
abbrev cX12_fails : ByteArray := prog_14_method_88_code
def yX12_fails : MethodName := ⟨RX12, "fails", "(I)I"⟩
abbrev cX12_look : ByteArray := prog_14_method_89_code
def yX12_look : MethodName := ⟨RX12, "look", "(II)I"⟩
abbrev wsJ00 : List Cond := u_ws RJ0 TJ0 4
abbrev wsJ40 : List Cond := u_ws RJ4 TJ4 4
def RL : String := "BallPotsLaw"
abbrev cL_look : ByteArray := method_3_code
def yL_look : MethodName := ⟨RL, "look", "(LBallPots;II[J)I"⟩
abbrev cL_law : ByteArray := code
def wsX11_arrange_r1 : List Cond := [Cond.fieldLink RX11 16 "BallPots" "plan" "LBallPots$Plan;", Cond.fieldLink RX11 48 "BallPots" "stage" "LBallPots$Stage;", Cond.fieldLink RX11 104 "BallPots" "nearestOrder" "I", Cond.methodLink RX11 214 yX11_readTurns, Cond.static yX11_readTurns, Cond.initialized RX11, Cond.code yX11_readTurns cX11_readTurns 5 (some .boolean), Cond.methodLink RX11 218 yX8_empty, Cond.instanceMethod yX8_empty, Cond.selects RX8 yX8_empty yX8_empty, Cond.initialized RX8, Cond.code yX8_empty cX8_empty 1 none, Cond.fieldLink RX8 47 "BallPots$Stage" "out" "I", Cond.fieldLink RX8 18 "BallPots$Stage" "groupOf" "[I", Cond.methodLink RX8 51 yJ7_fill_53178, Cond.static yJ7_fill_53178, Cond.initialized RJ7, Cond.code yJ7_fill_53178 cJ7_fill_53178 4 none, Cond.methodLink RX11 154 yX11_startChanged, Cond.instanceMethod yX11_startChanged, Cond.selects RX11 yX11_startChanged yX11_startChanged, Cond.code yX11_startChanged cX11_startChanged 1 none, Cond.fieldLink RX11 78 "BallPots" "fromStart" "[LBallPots$Chances;", Cond.methodLink RX11 157 yX11_stageChanged]
def wsX11_arrange_r2 : List Cond := [Cond.instanceMethod yX11_stageChanged, Cond.selects RX11 yX11_stageChanged yX11_stageChanged, Cond.code yX11_stageChanged cX11_stageChanged 2 none, Cond.fieldLink RX11 82 "BallPots" "fromNow" "[LBallPots$Chances;"]
def wsX11_arrange : List Cond := .code yX11_arrange cX11_arrange 2 (some .boolean) :: ((wsX11_arrange_r1 ++ wsX11_arrange_r2) ++ wsX110 ++ wsX30 ++ wsX80 ++ wsX10)
def wsX11_numberAfter : List Cond := .code yX11_numberAfter cX11_numberAfter 1 (some .int) :: ([.constant RX11 443 (1103515245), .constant RX11 446 (2147483647)])
def wsX11_look : List Cond := .code yX11_look cX11_look 3 (some .int) :: ([.classLink RX11 450 "java/lang/IndexOutOfBoundsException", .initialized "java/lang/IndexOutOfBoundsException", .classLink RX11 457 "java/util/NoSuchElementException", .initialized "java/util/NoSuchElementException", .fieldLink RX11 16 "BallPots" "plan" "LBallPots$Plan;", .methodLink RX11 186 yX11_isTeam, .instanceMethod yX11_isTeam, .selects RX11 yX11_isTeam yX11_isTeam, .initialized RX11, .code yX11_isTeam cX11_isTeam 2 (some .boolean), .methodLink RX11 230 yX3_potOf, .instanceMethod yX3_potOf, .selects RX3 yX3_potOf yX3_potOf, .initialized RX3, .code yX3_potOf cX3_potOf 2 (some .int), .fieldLink RX3 27 "BallPots$Plan" "groups" "I"] ++ wsX110 ++ wsX30 ++ (vx_atS RX11 454 "java/lang/IndexOutOfBoundsException" ["java/lang/RuntimeException", "java/lang/Exception"]).filter goodWord ++ (vx_atS RX11 461 "java/util/NoSuchElementException" ["java/lang/RuntimeException", "java/lang/Exception"]).filter goodWord ++ (vx_atM "java/lang/ArrayIndexOutOfBoundsException" ["java/lang/IndexOutOfBoundsException", "java/lang/RuntimeException", "java/lang/Exception"]).filter goodWord)
def wsX12_thrown : List Cond := .code yX12_thrown cX12_thrown 1 (some .int) :: ([.fieldLink RX12 132 "BallPotsModel" "thrown" "I"] ++ wsX120)
def wsX12_arrange : List Cond := .code yX12_arrange cX12_arrange 3 (some .boolean) :: ([.fieldLink RX12 132 "BallPotsModel" "thrown" "I", .fieldLink RX12 185 "BallPotsModel" "groups" "I", .fieldLink RX12 62 "BallPotsModel" "arranged" "[I", .fieldLink RX12 234 "BallPotsModel" "out" "I", .fieldLink RX12 102 "BallPotsModel" "laid" "I", .methodLink RX12 272 yX12_isOnce, .static yX12_isOnce, .initialized RX12, .code yX12_isOnce cX12_isOnce 4 (some .boolean)] ++ wsX120)
def wsX12_comesNext : List Cond := .code yX12_comesNext cX12_comesNext 2 (some .long) :: ([.constantLong RX12 396 (1103515245), .constantLong RX12 398 (12345), .constantLong RX12 400 (2147483647)])
def wsX12_fails : List Cond := .code yX12_fails cX12_fails 2 (some .int) :: ([.fieldLink RX12 132 "BallPotsModel" "thrown" "I"] ++ wsX120)
def wsX12_look : List Cond := .code yX12_look cX12_look 5 (some .int) :: ([.fieldLink RX12 132 "BallPotsModel" "thrown" "I", .fieldLink RX12 222 "BallPotsModel" "marks" "I", .fieldLink RX12 26 "BallPotsModel" "marked" "[I", .fieldLink RX12 185 "BallPotsModel" "groups" "I", .methodLink RX12 269 yX12_isTeam, .instanceMethod yX12_isTeam, .selects RX12 yX12_isTeam yX12_isTeam, .initialized RX12, .code yX12_isTeam cX12_isTeam 2 (some .boolean), .methodLink RX12 241 yX12_teams, .instanceMethod yX12_teams, .selects RX12 yX12_teams yX12_teams, .code yX12_teams cX12_teams 1 (some .int), .fieldLink RX12 188 "BallPotsModel" "pots" "I", .methodLink RX12 410 yX12_fails, .instanceMethod yX12_fails, .selects RX12 yX12_fails yX12_fails, .code yX12_fails cX12_fails 2 (some .int), .methodLink RX12 237 yX12_isIn, .static yX12_isIn, .code yX12_isIn cX12_isIn 3 (some .boolean)] ++ wsX120)
def wsL_look : List Cond := .codeWith yL_look cL_look 5 (some .int) [(0, 10, 13, 13), (0, 10, 17, 15)] :: ([.classLink RL 13 "java/lang/IndexOutOfBoundsException", .classLink RL 15 "java/util/NoSuchElementException", .methodLink RL 7 yX11_look, .instanceMethod yX11_look, .selects RX11 yX11_look yX11_look, .initialized RX11, .code yX11_look cX11_look 3 (some .int), .classLink RX11 450 "java/lang/IndexOutOfBoundsException", .initialized "java/lang/IndexOutOfBoundsException", .classLink RX11 457 "java/util/NoSuchElementException", .initialized "java/util/NoSuchElementException", .fieldLink RX11 16 "BallPots" "plan" "LBallPots$Plan;", .methodLink RX11 186 yX11_isTeam, .instanceMethod yX11_isTeam, .selects RX11 yX11_isTeam yX11_isTeam, .code yX11_isTeam cX11_isTeam 2 (some .boolean), .methodLink RX11 230 yX3_potOf, .instanceMethod yX3_potOf, .selects RX3 yX3_potOf yX3_potOf, .initialized RX3, .code yX3_potOf cX3_potOf 2 (some .int), .fieldLink RX3 27 "BallPots$Plan" "groups" "I"] ++ wsX110 ++ wsX30 ++ (vx_atM "java/lang/ArrayIndexOutOfBoundsException" ["java/lang/IndexOutOfBoundsException", "java/lang/RuntimeException", "java/lang/Exception"]).filter goodWord ++ (vx_atS RX11 454 "java/lang/IndexOutOfBoundsException" ["java/lang/RuntimeException", "java/lang/Exception"]).filter goodWord ++ (vx_atS RX11 461 "java/util/NoSuchElementException" ["java/lang/RuntimeException", "java/lang/Exception"]).filter goodWord)
def wsL_law0_r1 : List Cond := [Cond.classLink RL 8 RX11, Cond.instantiable RX11 18, Cond.initialized RX11, Cond.classLink RL 18 RX12, Cond.instantiable RX12 66, Cond.initialized RX12, Cond.arrayClass .long, Cond.methodLink RL 17 yX11_init, Cond.instanceMethod yX11_init, Cond.code yX11_init cX11_init 2 none, Cond.methodLink RX11 1 objectInit, Cond.instanceMethod objectInit, Cond.code objectInit ⟨#[0xb1]⟩ 1 none, Cond.arrayClass .int, Cond.fieldLink RX11 9 "BallPots" "tape" "[I", Cond.classLink RX11 13 RX3, Cond.instantiable RX3 11, Cond.initialized RX3, Cond.fieldLink RX11 16 "BallPots" "plan" "LBallPots$Plan;", Cond.classLink RX11 20 RX5, Cond.instantiable RX5 9, Cond.initialized RX5, Cond.fieldLink RX11 25 "BallPots" "reader" "LBallPots$Reader;", Cond.classLink RX11 29 RX4]
def wsL_law0_r2 : List Cond := [Cond.instantiable RX4 9, Cond.initialized RX4, Cond.fieldLink RX11 32 "BallPots" "ranks" "LBallPots$Ranks;", Cond.classLink RX11 36 RX2, Cond.instantiable RX2 10, Cond.initialized RX2, Cond.fieldLink RX11 41 "BallPots" "draws" "LBallPots$Draws;", Cond.classLink RX11 45 RX8, Cond.instantiable RX8 8, Cond.initialized RX8, Cond.fieldLink RX11 48 "BallPots" "stage" "LBallPots$Stage;", Cond.classLink RX11 52 RX10, Cond.instantiable RX10 5, Cond.initialized RX10, Cond.fieldLink RX11 57 "BallPots" "treeNow" "LBallPots$Tree;", Cond.fieldLink RX11 61 "BallPots" "treeInTurn" "LBallPots$Tree;", Cond.fieldLink RX11 64 "BallPots" "treeTried" "LBallPots$Tree;", Cond.classLink RX11 67 RX6, Cond.instantiable RX6 10, Cond.initialized RX6, Cond.fieldLink RX11 72 "BallPots" "reckoner" "LBallPots$Reckoner;", Cond.classLink RX11 76 RX1, Cond.fieldLink RX11 78 "BallPots" "fromStart" "[LBallPots$Chances;", Cond.fieldLink RX11 82 "BallPots" "fromNow" "[LBallPots$Chances;"]
def wsL_law0_r3 : List Cond := [Cond.instantiable RX1 4, Cond.initialized RX1, Cond.fieldLink RX11 86 "BallPots" "tried" "LBallPots$Chances;", Cond.classLink RX11 90 RX0, Cond.instantiable RX0 5, Cond.initialized RX0, Cond.fieldLink RX11 93 "BallPots" "barTable" "LBallPots$BarTable;", Cond.classLink RX11 97 RX9, Cond.instantiable RX9 10, Cond.initialized RX9, Cond.fieldLink RX11 100 "BallPots" "swaps" "LBallPots$Swaps;", Cond.fieldLink RX11 104 "BallPots" "nearestOrder" "I", Cond.fieldLink RX11 108 "BallPots" "nearestArrangement" "I", Cond.methodLink RX11 15 yX3_init, Cond.instanceMethod yX3_init, Cond.code yX3_init cX3_init 1 none, Cond.methodLink RX3 3 objectInit, Cond.fieldLink RX3 9 "BallPots$Plan" "teamNames" "[I", Cond.fieldLink RX3 15 "BallPots$Plan" "marksOf" "[I", Cond.fieldLink RX3 18 "BallPots$Plan" "markNames" "[I", Cond.fieldLink RX3 21 "BallPots$Plan" "barTeams" "[I", Cond.fieldLink RX3 24 "BallPots$Plan" "barRooms" "[I", Cond.fieldLink RX3 27 "BallPots$Plan" "groups" "I", Cond.methodLink RX11 22 yX5_init]
def wsL_law0_r4 : List Cond := [Cond.instanceMethod yX5_init, Cond.code yX5_init cX5_init 2 none, Cond.methodLink RX5 3 objectInit, Cond.classLink RX5 9 RX3, Cond.fieldLink RX5 12 "BallPots$Reader" "plan" "LBallPots$Plan;", Cond.fieldLink RX5 18 "BallPots$Reader" "place" "I", Cond.fieldLink RX5 22 "BallPots$Reader" "signs" "[I", Cond.methodLink RX5 11 yX3_init, Cond.instanceMethod yX4_init, Cond.code yX4_init cX4_init 1 none, Cond.methodLink RX4 3 objectInit, Cond.fieldLink RX4 9 "BallPots$Ranks" "groupOf" "[I", Cond.fieldLink RX4 15 "BallPots$Ranks" "placeIn" "[I", Cond.fieldLink RX4 18 "BallPots$Ranks" "having" "[I", Cond.fieldLink RX4 21 "BallPots$Ranks" "swapped" "[I", Cond.fieldLink RX4 24 "BallPots$Ranks" "row" "[I", Cond.methodLink RX11 38 yX2_init, Cond.instanceMethod yX2_init, Cond.code yX2_init cX2_init 3 none, Cond.methodLink RX2 3 objectInit, Cond.fieldLink RX2 9 "BallPots$Draws" "step" "[I", Cond.fieldLink RX2 15 "BallPots$Draws" "broken" "[I", Cond.fieldLink RX2 18 "BallPots$Draws" "lawfulCodes" "[I", Cond.fieldLink RX2 21 "BallPots$Draws" "within" "[I"]
def wsL_law0_r5 : List Cond := [Cond.fieldLink RX2 24 "BallPots$Draws" "withinSome" "[I", Cond.fieldLink RX2 27 "BallPots$Draws" "held" "[I", Cond.fieldLink RX2 30 "BallPots$Draws" "plan" "LBallPots$Plan;", Cond.fieldLink RX2 34 "BallPots$Draws" "ranks" "LBallPots$Ranks;", Cond.methodLink RX11 47 yX8_init, Cond.instanceMethod yX8_init, Cond.code yX8_init cX8_init 3 none, Cond.methodLink RX8 3 objectInit, Cond.fieldLink RX8 9 "BallPots$Stage" "potAt" "[I", Cond.fieldLink RX8 15 "BallPots$Stage" "groupAt" "[I", Cond.fieldLink RX8 18 "BallPots$Stage" "groupOf" "[I", Cond.fieldLink RX8 21 "BallPots$Stage" "balls" "[I", Cond.fieldLink RX8 24 "BallPots$Stage" "allowed" "[I", Cond.fieldLink RX8 27 "BallPots$Stage" "plan" "LBallPots$Plan;", Cond.fieldLink RX8 31 "BallPots$Stage" "ranks" "LBallPots$Ranks;", Cond.methodLink RX11 54 yX10_init, Cond.instanceMethod yX10_init, Cond.code yX10_init cX10_init 2 none, Cond.methodLink RX10 3 objectInit, Cond.fieldLink RX10 11 "BallPots$Tree" "sets" "[I", Cond.fieldLink RX10 15 "BallPots$Tree" "from" "[I", Cond.fieldLink RX10 18 "BallPots$Tree" "potAt" "[I", Cond.fieldLink RX10 21 "BallPots$Tree" "draws" "LBallPots$Draws;", Cond.methodLink RX11 69 yX6_init]
def wsL_law0_r6 : List Cond := [Cond.instanceMethod yX6_init, Cond.code yX6_init cX6_init 3 none, Cond.methodLink RX6 3 objectInit, Cond.fieldLink RX6 9 "BallPots$Reckoner" "rankAt" "[I", Cond.fieldLink RX6 15 "BallPots$Reckoner" "rowsAt" "[J", Cond.fieldLink RX6 25 "BallPots$Reckoner" "plan" "LBallPots$Plan;", Cond.fieldLink RX6 30 "BallPots$Reckoner" "ranks" "LBallPots$Ranks;", Cond.fieldLink RX6 31 "BallPots$Reckoner" "stage" "LBallPots$Stage;", Cond.classLink RX6 35 RX7, Cond.instantiable RX7 6, Cond.initialized RX7, Cond.fieldLink RX6 40 "BallPots$Reckoner" "spread" "LBallPots$Spread;", Cond.methodLink RX6 37 yX7_init, Cond.instanceMethod yX7_init, Cond.code yX7_init cX7_init 2 none, Cond.methodLink RX7 3 objectInit, Cond.fieldLink RX7 9 "BallPots$Spread" "groupAt" "[I", Cond.fieldLink RX7 15 "BallPots$Spread" "rows" "[J", Cond.fieldLink RX7 19 "BallPots$Spread" "keys" "[I", Cond.fieldLink RX7 22 "BallPots$Spread" "tables" "[J", Cond.fieldLink RX7 25 "BallPots$Spread" "ranks" "LBallPots$Ranks;", Cond.instanceMethod yX1_init, Cond.code yX1_init cX1_init 1 none, Cond.methodLink RX1 3 objectInit]
def wsL_law0_r7 : List Cond := [Cond.fieldLink RX1 9 "BallPots$Chances" "pairs" "[J", Cond.fieldLink RX1 15 "BallPots$Chances" "places" "[J", Cond.methodLink RX11 92 yX0_init, Cond.instanceMethod yX0_init, Cond.code yX0_init cX0_init 2 none, Cond.methodLink RX0 3 objectInit, Cond.fieldLink RX0 11 "BallPots$BarTable" "pairs" "[I", Cond.fieldLink RX0 15 "BallPots$BarTable" "draws" "LBallPots$Draws;", Cond.fieldLink RX0 25 "BallPots$BarTable" "plan" "LBallPots$Plan;", Cond.fieldLink RX0 30 "BallPots$BarTable" "ranks" "LBallPots$Ranks;", Cond.methodLink RX11 99 yX9_init, Cond.instanceMethod yX9_init, Cond.code yX9_init cX9_init 2 none, Cond.methodLink RX9 3 objectInit, Cond.fieldLink RX9 9 "BallPots$Swaps" "rows" "[I", Cond.fieldLink RX9 15 "BallPots$Swaps" "other" "[I", Cond.fieldLink RX9 18 "BallPots$Swaps" "done" "I", Cond.fieldLink RX9 22 "BallPots$Swaps" "draws" "LBallPots$Draws;", Cond.fieldLink RX9 32 "BallPots$Swaps" "ranks" "LBallPots$Ranks;", Cond.methodLink RX11 111 yX11_beginAnew, Cond.instanceMethod yX11_beginAnew, Cond.selects RX11 yX11_beginAnew yX11_beginAnew, Cond.code yX11_beginAnew cX11_beginAnew 1 none, Cond.methodLink RX11 136 yX4_set]
def wsL_law0_r8 : List Cond := [Cond.instanceMethod yX4_set, Cond.selects RX4 yX4_set yX4_set, Cond.code yX4_set cX4_set 3 none, Cond.fieldLink RX4 27 "BallPots$Ranks" "groups" "I", Cond.fieldLink RX4 31 "BallPots$Ranks" "many" "I", Cond.fieldLink RX4 47 "BallPots$Ranks" "everyRank" "I", Cond.methodLink RX4 34 yJ7_fill_53178, Cond.static yJ7_fill_53178, Cond.initialized RJ7, Cond.code yJ7_fill_53178 cJ7_fill_53178 4 none, Cond.methodLink RX4 40 yX4_readRow, Cond.static yX4_readRow, Cond.code yX4_readRow cX4_readRow 5 (some .boolean), Cond.methodLink RX4 44 yX4_addRow, Cond.instanceMethod yX4_addRow, Cond.selects RX4 yX4_addRow yX4_addRow, Cond.code yX4_addRow cX4_addRow 3 none, Cond.methodLink RX4 50 yX4_setSwaps, Cond.instanceMethod yX4_setSwaps, Cond.selects RX4 yX4_setSwaps yX4_setSwaps, Cond.code yX4_setSwaps cX4_setSwaps 5 none, Cond.fieldLink RX4 58 "BallPots$Ranks" "swapsAPot" "I", Cond.methodLink RX4 54 yX4_rankWithSwapped, Cond.instanceMethod yX4_rankWithSwapped]
def wsL_law0_r9 : List Cond := [Cond.selects RX4 yX4_rankWithSwapped yX4_rankWithSwapped, Cond.code yX4_rankWithSwapped cX4_rankWithSwapped 8 (some .int), Cond.methodLink RX4 61 yX4_groupAt, Cond.instanceMethod yX4_groupAt, Cond.selects RX4 yX4_groupAt yX4_groupAt, Cond.code yX4_groupAt cX4_groupAt 3 (some .int), Cond.methodLink RX4 65 yX4_only, Cond.static yX4_only, Cond.code yX4_only cX4_only 1 (some .int), Cond.methodLink RX4 69 yJ6_bitCount_0f7a4, Cond.static yJ6_bitCount_0f7a4, Cond.initialized RJ6, Cond.code yJ6_bitCount_0f7a4 cJ6_bitCount_0f7a4 1 (some .int), Cond.constant RJ6 265 (1431655765), Cond.constant RJ6 266 (858993459), Cond.constant RJ6 267 (252645135), Cond.methodLink RX11 139 yX2_renew, Cond.instanceMethod yX2_renew, Cond.selects RX2 yX2_renew yX2_renew, Cond.code yX2_renew cX2_renew 2 none, Cond.fieldLink RX2 38 "BallPots$Draws" "total" "I", Cond.methodLink RX2 52 yJ7_fill_fda19, Cond.static yJ7_fill_fda19, Cond.code yJ7_fill_fda19 cJ7_fill_fda19 5 none]
def wsL_law0_r10 : List Cond := [Cond.methodLink RJ7 13 yJ7_rangeCheck_23922, Cond.static yJ7_rangeCheck_23922, Cond.code yJ7_rangeCheck_23922 cJ7_rangeCheck_23922 3 none, Cond.classLink RJ7 68 RJx00060, Cond.instantiable RJx00060 6, Cond.initialized RJx00060, Cond.methodLink RX2 64 yX2_tellHeld, Cond.instanceMethod yX2_tellHeld, Cond.selects RX2 yX2_tellHeld yX2_tellHeld, Cond.code yX2_tellHeld cX2_tellHeld 7 none, Cond.methodLink RX2 84 yX4_groupAt, Cond.methodLink RX2 71 yX2_breakBar, Cond.instanceMethod yX2_breakBar, Cond.selects RX2 yX2_breakBar yX2_breakBar, Cond.code yX2_breakBar cX2_breakBar 8 none, Cond.constant RX2 91 (34952), Cond.methodLink RX2 88 yX2_rankIn, Cond.instanceMethod yX2_rankIn, Cond.selects RX2 yX2_rankIn yX2_rankIn, Cond.code yX2_rankIn cX2_rankIn 5 (some .int), Cond.methodLink RX2 75 yX2_listLawful, Cond.instanceMethod yX2_listLawful, Cond.selects RX2 yX2_listLawful yX2_listLawful, Cond.code yX2_listLawful cX2_listLawful 2 none]
def wsL_law0_r11 : List Cond := [Cond.fieldLink RX2 92 "BallPots$Draws" "lawfulOnes" "I", Cond.methodLink RX2 78 yX2_tellWithin, Cond.instanceMethod yX2_tellWithin, Cond.selects RX2 yX2_tellWithin yX2_tellWithin, Cond.code yX2_tellWithin cX2_tellWithin 2 none, Cond.methodLink RX2 95 yJ7_fill_53178, Cond.methodLink RX2 98 yX2_addUp, Cond.static yX2_addUp, Cond.code yX2_addUp cX2_addUp 5 none, Cond.methodLink RX11 142 yX8_putInTurn, Cond.instanceMethod yX8_putInTurn, Cond.selects RX8 yX8_putInTurn yX8_putInTurn, Cond.code yX8_putInTurn cX8_putInTurn 1 none, Cond.methodLink RX8 38 arraycopyName, Cond.native arraycopyName, Cond.static arraycopyName, Cond.initialized "java/lang/System", Cond.methodLink RX8 44 yX8_empty, Cond.instanceMethod yX8_empty, Cond.selects RX8 yX8_empty yX8_empty, Cond.code yX8_empty cX8_empty 1 none, Cond.fieldLink RX8 47 "BallPots$Stage" "out" "I", Cond.methodLink RX8 51 yJ7_fill_53178, Cond.methodLink RX11 151 yX9_forget]
def wsL_law0_r12 : List Cond := [Cond.instanceMethod yX9_forget, Cond.selects RX9 yX9_forget yX9_forget, Cond.code yX9_forget cX9_forget 1 none, Cond.fieldLink RX9 33 "BallPots$Swaps" "partsFresh" "Z", Cond.methodLink RX11 154 yX11_startChanged, Cond.instanceMethod yX11_startChanged, Cond.selects RX11 yX11_startChanged yX11_startChanged, Cond.code yX11_startChanged cX11_startChanged 1 none, Cond.methodLink RX11 157 yX11_stageChanged, Cond.instanceMethod yX11_stageChanged, Cond.selects RX11 yX11_stageChanged yX11_stageChanged, Cond.code yX11_stageChanged cX11_stageChanged 2 none, Cond.methodLink RL 20 yX12_init, Cond.instanceMethod yX12_init, Cond.code yX12_init cX12_init 1 none, Cond.methodLink RX12 1 objectInit, Cond.fieldLink RX12 7 "BallPotsModel" "tape" "[I", Cond.fieldLink RX12 13 "BallPotsModel" "words" "[I", Cond.fieldLink RX12 16 "BallPotsModel" "faultPlace" "I", Cond.fieldLink RX12 20 "BallPotsModel" "team" "[I", Cond.fieldLink RX12 23 "BallPotsModel" "markName" "[I", Cond.fieldLink RX12 26 "BallPotsModel" "marked" "[I", Cond.fieldLink RX12 29 "BallPotsModel" "bar" "[I", Cond.fieldLink RX12 32 "BallPotsModel" "teamRead" "[I"]
def wsL_law0_r13 : List Cond := [Cond.fieldLink RX12 35 "BallPotsModel" "markRead" "[I", Cond.fieldLink RX12 38 "BallPotsModel" "markedRead" "[I", Cond.fieldLink RX12 41 "BallPotsModel" "barRead" "[I", Cond.fieldLink RX12 44 "BallPotsModel" "row" "[I", Cond.fieldLink RX12 47 "BallPotsModel" "breaks" "[I", Cond.constant RX12 50 (165888), Cond.arrayClass .byte, Cond.fieldLink RX12 51 "BallPotsModel" "groupOf" "[B", Cond.arrayClass .boolean, Cond.fieldLink RX12 55 "BallPotsModel" "broken" "[Z", Cond.fieldLink RX12 59 "BallPotsModel" "order" "[I", Cond.fieldLink RX12 62 "BallPotsModel" "arranged" "[I", Cond.fieldLink RX12 65 "BallPotsModel" "ballOf" "[I", Cond.fieldLink RX12 68 "BallPotsModel" "groupGot" "[I", Cond.fieldLink RX12 71 "BallPotsModel" "turn" "[I", Cond.fieldLink RX12 74 "BallPotsModel" "look" "[I", Cond.fieldLink RX12 77 "BallPotsModel" "level" "[I", Cond.fieldLink RX12 80 "BallPotsModel" "mask" "[I", Cond.fieldLink RX12 83 "BallPotsModel" "ways" "[J", Cond.fieldLink RX12 87 "BallPotsModel" "indexOf" "[I", Cond.fieldLink RX12 90 "BallPotsModel" "having" "[I", Cond.fieldLink RX12 93 "BallPotsModel" "power" "[I", Cond.fieldLink RX12 96 "BallPotsModel" "part" "[J", Cond.fieldLink RX12 99 "BallPotsModel" "weight" "[J"]
def wsL_law0_r14 : List Cond := [Cond.fieldLink RX12 102 "BallPotsModel" "laid" "I", Cond.fieldLink RX12 105 "BallPotsModel" "pairs" "[J", Cond.fieldLink RX12 108 "BallPotsModel" "partOf" "[I", Cond.fieldLink RX12 111 "BallPotsModel" "queue" "[I", Cond.fieldLink RX12 114 "BallPotsModel" "step" "[I", Cond.fieldLink RX12 117 "BallPotsModel" "turned" "[I", Cond.fieldLink RX12 120 "BallPotsModel" "rows" "[I", Cond.fieldLink RX12 123 "BallPotsModel" "then" "[I", Cond.methodLink RX12 126 yX12_plain, Cond.instanceMethod yX12_plain, Cond.selects RX12 yX12_plain yX12_plain, Cond.code yX12_plain cX12_plain 1 none, Cond.fieldLink RX12 170 "BallPotsModel" "groupsRead" "I", Cond.fieldLink RX12 173 "BallPotsModel" "potsRead" "I", Cond.fieldLink RX12 176 "BallPotsModel" "teamsRead" "I", Cond.fieldLink RX12 179 "BallPotsModel" "marksRead" "I", Cond.fieldLink RX12 182 "BallPotsModel" "barsRead" "I", Cond.methodLink RX12 129 yX12_keep, Cond.instanceMethod yX12_keep, Cond.selects RX12 yX12_keep yX12_keep, Cond.code yX12_keep cX12_keep 2 none, Cond.fieldLink RX12 185 "BallPotsModel" "groups" "I", Cond.fieldLink RX12 188 "BallPotsModel" "pots" "I", Cond.fieldLink RX12 222 "BallPotsModel" "marks" "I"]
def wsL_law0_r15 : List Cond := [Cond.fieldLink RX12 225 "BallPotsModel" "bars" "I", Cond.fieldLink RX12 234 "BallPotsModel" "out" "I", Cond.methodLink RX12 228 yX12_layRows, Cond.instanceMethod yX12_layRows, Cond.selects RX12 yX12_layRows yX12_layRows, Cond.code yX12_layRows cX12_layRows 6 none, Cond.fieldLink RX12 245 "BallPotsModel" "ranks" "I", Cond.methodLink RX12 231 yX12_layDraws, Cond.instanceMethod yX12_layDraws, Cond.selects RX12 yX12_layDraws yX12_layDraws, Cond.code yX12_layDraws cX12_layDraws 5 none, Cond.fieldLink RX12 248 "BallPotsModel" "draws" "I", Cond.fieldLink RX12 251 "BallPotsModel" "lawful" "I", Cond.methodLink RX12 254 yX12_rankIn, Cond.instanceMethod yX12_rankIn, Cond.selects RX12 yX12_rankIn yX12_rankIn, Cond.code yX12_rankIn cX12_rankIn 5 (some .int), Cond.methodLink RX12 257 yX12_isBroken, Cond.instanceMethod yX12_isBroken, Cond.selects RX12 yX12_isBroken yX12_isBroken, Cond.code yX12_isBroken cX12_isBroken 8 (some .boolean), Cond.methodLink RX12 241 yX12_teams, Cond.instanceMethod yX12_teams, Cond.selects RX12 yX12_teams yX12_teams]
def wsL_law0_r16 : List Cond := [Cond.code yX12_teams cX12_teams 1 (some .int), Cond.methodLink RL 21 yX11_feed, Cond.instanceMethod yX11_feed, Cond.selects RX11 yX11_feed yX11_feed, Cond.code yX11_feed cX11_feed 6 (some .int), Cond.fieldLink RX11 114 "BallPots" "taped" "I", Cond.methodLink RX11 117 yX11_tapeFour, Cond.instanceMethod yX11_tapeFour, Cond.selects RX11 yX11_tapeFour yX11_tapeFour, Cond.code yX11_tapeFour cX11_tapeFour 3 none, Cond.methodLink RL 25 yX12_feed, Cond.instanceMethod yX12_feed, Cond.selects RX12 yX12_feed yX12_feed, Cond.code yX12_feed cX12_feed 8 (some .int), Cond.fieldLink RX12 132 "BallPotsModel" "thrown" "I", Cond.fieldLink RX12 135 "BallPotsModel" "tapeSize" "I", Cond.methodLink RL 26 yX11_text, Cond.instanceMethod yX11_text, Cond.selects RX11 yX11_text yX11_text, Cond.code yX11_text cX11_text 3 (some .int), Cond.methodLink RX11 121 yX5_readLines, Cond.instanceMethod yX5_readLines, Cond.selects RX5 yX5_readLines yX5_readLines, Cond.code yX5_readLines cX5_readLines 4 (some .int)]
def wsL_law0_r17 : List Cond := [Cond.methodLink RX5 26 Lib.Math.min.name, Cond.static Lib.Math.min.name, Cond.initialized "java/lang/Math", Cond.code Lib.Math.min.name Lib.Math.min.code 2 (some .int), Cond.fieldLink RX5 32 "BallPots$Reader" "length" "I", Cond.fieldLink RX5 35 "BallPots$Reader" "at" "I", Cond.fieldLink RX5 38 "BallPots$Reader" "fault" "I", Cond.fieldLink RX5 47 "BallPots$Reader" "kind" "I", Cond.methodLink RX5 41 yX3_forget, Cond.instanceMethod yX3_forget, Cond.selects RX3 yX3_forget yX3_forget, Cond.code yX3_forget cX3_forget 1 none, Cond.fieldLink RX3 31 "BallPots$Plan" "pots" "I", Cond.fieldLink RX3 34 "BallPots$Plan" "teams" "I", Cond.fieldLink RX3 37 "BallPots$Plan" "marks" "I", Cond.fieldLink RX3 40 "BallPots$Plan" "bars" "I", Cond.fieldLink RX3 43 "BallPots$Plan" "groupsNamed" "I", Cond.methodLink RX5 44 yX5_step, Cond.instanceMethod yX5_step, Cond.selects RX5 yX5_step yX5_step, Cond.code yX5_step cX5_step 1 none, Cond.fieldLink RX5 54 "BallPots$Reader" "start" "I", Cond.methodLink RX5 57 yX5_isBlank, Cond.static yX5_isBlank]
def wsL_law0_r18 : List Cond := [Cond.code yX5_isBlank cX5_isBlank 1 (some .boolean), Cond.methodLink RX5 61 yX5_isLetter, Cond.static yX5_isLetter, Cond.code yX5_isLetter cX5_isLetter 1 (some .boolean), Cond.methodLink RX5 64 yX5_stepWord, Cond.instanceMethod yX5_stepWord, Cond.selects RX5 yX5_stepWord yX5_stepWord, Cond.code yX5_stepWord cX5_stepWord 2 none, Cond.fieldLink RX5 73 "BallPots$Reader" "value" "I", Cond.methodLink RX5 67 yX5_isDigit, Cond.static yX5_isDigit, Cond.code yX5_isDigit cX5_isDigit 1 (some .boolean), Cond.methodLink RX5 70 yX5_stepNumber, Cond.instanceMethod yX5_stepNumber, Cond.selects RX5 yX5_stepNumber yX5_stepNumber, Cond.code yX5_stepNumber cX5_stepNumber 1 none, Cond.methodLink RX5 50 yX5_readLine, Cond.instanceMethod yX5_readLine, Cond.selects RX5 yX5_readLine yX5_readLine, Cond.code yX5_readLine cX5_readLine 2 (some .boolean), Cond.methodLink RX5 76 yX5_readUpToStop, Cond.instanceMethod yX5_readUpToStop, Cond.selects RX5 yX5_readUpToStop yX5_readUpToStop, Cond.code yX5_readUpToStop cX5_readUpToStop 2 (some .boolean)]
def wsL_law0_r19 : List Cond := [Cond.constant RX5 83 (254268947), Cond.methodLink RX5 84 yX5_fail, Cond.instanceMethod yX5_fail, Cond.selects RX5 yX5_fail yX5_fail, Cond.code yX5_fail cX5_fail 2 (some .boolean), Cond.methodLink RX5 87 yX5_readGroups, Cond.instanceMethod yX5_readGroups, Cond.selects RX5 yX5_readGroups yX5_readGroups, Cond.code yX5_readGroups cX5_readGroups 1 (some .boolean), Cond.methodLink RX5 108 yX5_isNumber, Cond.instanceMethod yX5_isNumber, Cond.selects RX5 yX5_isNumber yX5_isNumber, Cond.code yX5_isNumber cX5_isNumber 3 (some .boolean), Cond.methodLink RX5 90 yX5_readPot, Cond.instanceMethod yX5_readPot, Cond.selects RX5 yX5_readPot yX5_readPot, Cond.code yX5_readPot cX5_readPot 3 (some .boolean), Cond.methodLink RX5 121 yX5_isName, Cond.instanceMethod yX5_isName, Cond.selects RX5 yX5_isName yX5_isName, Cond.code yX5_isName cX5_isName 1 (some .boolean), Cond.methodLink RX5 164 yX5_isOfLanguage, Cond.static yX5_isOfLanguage, Cond.code yX5_isOfLanguage cX5_isOfLanguage 1 (some .boolean)]
def wsL_law0_r20 : List Cond := [Cond.methodLink RX5 124 yX3_teamNamed, Cond.instanceMethod yX3_teamNamed, Cond.selects RX3 yX3_teamNamed yX3_teamNamed, Cond.code yX3_teamNamed cX3_teamNamed 2 (some .int), Cond.methodLink RX3 52 yX3_find, Cond.static yX3_find, Cond.code yX3_find cX3_find 4 (some .int), Cond.methodLink RX5 128 yX3_addTeam, Cond.instanceMethod yX3_addTeam, Cond.selects RX3 yX3_addTeam yX3_addTeam, Cond.code yX3_addTeam cX3_addTeam 2 none, Cond.methodLink RX5 93 yX5_readMark, Cond.instanceMethod yX5_readMark, Cond.selects RX5 yX5_readMark yX5_readMark, Cond.code yX5_readMark cX5_readMark 5 (some .boolean), Cond.methodLink RX5 135 yX3_markNamed, Cond.instanceMethod yX3_markNamed, Cond.selects RX3 yX3_markNamed yX3_markNamed, Cond.code yX3_markNamed cX3_markNamed 2 (some .int), Cond.methodLink RX5 138 yX3_addMark, Cond.instanceMethod yX3_addMark, Cond.selects RX3 yX3_addMark yX3_addMark, Cond.code yX3_addMark cX3_addMark 2 none, Cond.methodLink RX5 141 yX5_readTeam]
def wsL_law0_r21 : List Cond := [Cond.instanceMethod yX5_readTeam, Cond.selects RX5 yX5_readTeam yX5_readTeam, Cond.code yX5_readTeam cX5_readTeam 2 (some .int), Cond.methodLink RX5 96 yX5_isRoomForBar, Cond.instanceMethod yX5_isRoomForBar, Cond.selects RX5 yX5_isRoomForBar yX5_isRoomForBar, Cond.code yX5_isRoomForBar cX5_isRoomForBar 1 (some .boolean), Cond.methodLink RX5 99 yX5_readAtMost, Cond.instanceMethod yX5_readAtMost, Cond.selects RX5 yX5_readAtMost yX5_readAtMost, Cond.code yX5_readAtMost cX5_readAtMost 3 (some .boolean), Cond.methodLink RX5 151 yX3_teamsMarked, Cond.instanceMethod yX3_teamsMarked, Cond.selects RX3 yX3_teamsMarked yX3_teamsMarked, Cond.code yX3_teamsMarked cX3_teamsMarked 4 (some .int), Cond.methodLink RX5 154 yX3_addAtMost, Cond.instanceMethod yX3_addAtMost, Cond.selects RX3 yX3_addAtMost yX3_addAtMost, Cond.code yX3_addAtMost cX3_addAtMost 3 none, Cond.methodLink RX3 60 yX3_addBar, Cond.instanceMethod yX3_addBar, Cond.selects RX3 yX3_addBar yX3_addBar, Cond.code yX3_addBar cX3_addBar 3 none, Cond.methodLink RX5 102 yX5_readApart]
def wsL_law0_r22 : List Cond := [Cond.instanceMethod yX5_readApart, Cond.selects RX5 yX5_readApart yX5_readApart, Cond.code yX5_readApart cX5_readApart 3 (some .boolean), Cond.methodLink RX5 105 yX5_readHeld, Cond.instanceMethod yX5_readHeld, Cond.selects RX5 yX5_readHeld yX5_readHeld, Cond.code yX5_readHeld cX5_readHeld 3 (some .boolean), Cond.methodLink RX5 158 yX3_addFixed, Cond.instanceMethod yX3_addFixed, Cond.selects RX3 yX3_addFixed yX3_addFixed, Cond.code yX3_addFixed cX3_addFixed 3 none, Cond.methodLink RX5 161 yX3_addNever, Cond.instanceMethod yX3_addNever, Cond.selects RX3 yX3_addNever yX3_addNever, Cond.code yX3_addNever cX3_addNever 3 none, Cond.methodLink RX5 79 yX5_readStop, Cond.instanceMethod yX5_readStop, Cond.selects RX5 yX5_readStop yX5_readStop, Cond.code yX5_readStop cX5_readStop 1 (some .boolean), Cond.methodLink RX11 129 yX3_take, Cond.instanceMethod yX3_take, Cond.selects RX3 yX3_take yX3_take, Cond.code yX3_take cX3_take 2 none, Cond.methodLink RX3 46 arraycopyName]
def wsL_law0_r23 : List Cond := [Cond.methodLink RL 30 yX12_text, Cond.instanceMethod yX12_text, Cond.selects RX12 yX12_text yX12_text, Cond.code yX12_text cX12_text 3 (some .int), Cond.fieldLink RX12 144 "BallPotsModel" "stop" "I", Cond.fieldLink RX12 138 "BallPotsModel" "fault" "I", Cond.fieldLink RX12 147 "BallPotsModel" "next" "I", Cond.fieldLink RX12 150 "BallPotsModel" "kind" "I", Cond.methodLink RX12 194 yX12_take, Cond.instanceMethod yX12_take, Cond.selects RX12 yX12_take yX12_take, Cond.code yX12_take cX12_take 1 none, Cond.fieldLink RX12 141 "BallPotsModel" "place" "I", Cond.fieldLink RX12 161 "BallPotsModel" "which" "I", Cond.methodLink RX12 153 yX12_isSmall, Cond.instanceMethod yX12_isSmall, Cond.selects RX12 yX12_isSmall yX12_isSmall, Cond.code yX12_isSmall cX12_isSmall 2 (some .boolean), Cond.methodLink RX12 157 yX12_wordAt, Cond.instanceMethod yX12_wordAt, Cond.selects RX12 yX12_wordAt yX12_wordAt, Cond.code yX12_wordAt cX12_wordAt 8 (some .int), Cond.methodLink RX12 164 yX12_packed, Cond.instanceMethod yX12_packed]
def wsL_law0_r24 : List Cond := [Cond.selects RX12 yX12_packed yX12_packed, Cond.code yX12_packed cX12_packed 5 (some .int), Cond.methodLink RX12 167 yX12_isDigit, Cond.instanceMethod yX12_isDigit, Cond.selects RX12 yX12_isDigit yX12_isDigit, Cond.code yX12_isDigit cX12_isDigit 2 (some .boolean), Cond.methodLink RX12 218 yX12_lineRead, Cond.instanceMethod yX12_lineRead, Cond.selects RX12 yX12_lineRead yX12_lineRead, Cond.code yX12_lineRead cX12_lineRead 2 (some .boolean), Cond.methodLink RX12 191 yX12_wrong, Cond.instanceMethod yX12_wrong, Cond.selects RX12 yX12_wrong yX12_wrong, Cond.code yX12_wrong cX12_wrong 2 (some .boolean), Cond.methodLink RX12 204 yX12_isNumber, Cond.instanceMethod yX12_isNumber, Cond.selects RX12 yX12_isNumber yX12_isNumber, Cond.code yX12_isNumber cX12_isNumber 3 (some .boolean), Cond.methodLink RX12 208 yX12_potRead, Cond.instanceMethod yX12_potRead, Cond.selects RX12 yX12_potRead yX12_potRead, Cond.code yX12_potRead cX12_potRead 2 (some .boolean), Cond.methodLink RX12 197 yX12_teamOf, Cond.instanceMethod yX12_teamOf]
def wsL_law0_r25 : List Cond := [Cond.selects RX12 yX12_teamOf yX12_teamOf, Cond.code yX12_teamOf cX12_teamOf 3 (some .int), Cond.methodLink RX12 212 yX12_markLine, Cond.instanceMethod yX12_markLine, Cond.selects RX12 yX12_markLine yX12_markLine, Cond.code yX12_markLine cX12_markLine 4 (some .boolean), Cond.methodLink RX12 201 yX12_markOf, Cond.instanceMethod yX12_markOf, Cond.selects RX12 yX12_markOf yX12_markOf, Cond.code yX12_markOf cX12_markOf 3 (some .int), Cond.methodLink RX12 215 yX12_barLine, Cond.instanceMethod yX12_barLine, Cond.selects RX12 yX12_barLine yX12_barLine, Cond.code yX12_barLine cX12_barLine 4 (some .boolean), Cond.methodLink RL 31 yX11_fault, Cond.instanceMethod yX11_fault, Cond.selects RX11 yX11_fault yX11_fault, Cond.code yX11_fault cX11_fault 2 (some .int), Cond.methodLink RL 34 yX12_fault, Cond.instanceMethod yX12_fault, Cond.selects RX12 yX12_fault yX12_fault, Cond.code yX12_fault cX12_fault 2 (some .int), Cond.methodLink RL 35 yX11_named, Cond.instanceMethod yX11_named]
def wsL_law0_r26 : List Cond := [Cond.selects RX11 yX11_named yX11_named, Cond.code yX11_named cX11_named 3 (some .int), Cond.methodLink RX11 163 yX3_teamNamed, Cond.methodLink RX11 166 yX3_markNamed, Cond.methodLink RL 38 yX12_named, Cond.instanceMethod yX12_named, Cond.selects RX12 yX12_named yX12_named, Cond.code yX12_named cX12_named 5 (some .int), Cond.methodLink RX12 237 yX12_isIn, Cond.static yX12_isIn, Cond.code yX12_isIn cX12_isIn 3 (some .boolean), Cond.methodLink RL 39 yX11_lawful, Cond.instanceMethod yX11_lawful, Cond.selects RX11 yX11_lawful yX11_lawful, Cond.code yX11_lawful cX11_lawful 1 (some .int), Cond.methodLink RL 43 yX12_lawful, Cond.instanceMethod yX12_lawful, Cond.selects RX12 yX12_lawful yX12_lawful, Cond.code yX12_lawful cX12_lawful 1 (some .int), Cond.methodLink RL 44 yX11_without, Cond.instanceMethod yX11_without, Cond.selects RX11 yX11_without yX11_without, Cond.code yX11_without cX11_without 2 (some .int), Cond.methodLink RX11 172 yX11_isBar]
def wsL_law0_r27 : List Cond := [Cond.instanceMethod yX11_isBar, Cond.selects RX11 yX11_isBar yX11_isBar, Cond.code yX11_isBar cX11_isBar 2 (some .boolean), Cond.methodLink RL 47 yX12_without, Cond.instanceMethod yX12_without, Cond.selects RX12 yX12_without yX12_without, Cond.code yX12_without cX12_without 2 (some .int), Cond.methodLink RX12 260 yX12_lawfulBut, Cond.instanceMethod yX12_lawfulBut, Cond.selects RX12 yX12_lawfulBut yX12_lawfulBut, Cond.code yX12_lawfulBut cX12_lawfulBut 4 (some .int), Cond.methodLink RL 48 yX11_forbids, Cond.instanceMethod yX11_forbids, Cond.selects RX11 yX11_forbids yX11_forbids, Cond.code yX11_forbids cX11_forbids 1 (some .int), Cond.static yX2_fewest, Cond.code yX2_fewest cX2_fewest 5 (some .int), Cond.methodLink RX2 101 yJ6_bitCount_0f7a4, Cond.methodLink RL 51 yX12_forbids, Cond.instanceMethod yX12_forbids, Cond.selects RX12 yX12_forbids yX12_forbids, Cond.code yX12_forbids cX12_forbids 2 (some .int), Cond.methodLink RX12 266 yX12_fewest, Cond.instanceMethod yX12_fewest]
def wsL_law0_r28 : List Cond := [Cond.selects RX12 yX12_fewest yX12_fewest, Cond.code yX12_fewest cX12_fewest 5 (some .int), Cond.methodLink RX12 263 yX12_many, Cond.static yX12_many, Cond.code yX12_many cX12_many 3 (some .int), Cond.methodLink RL 52 yX11_draw, Cond.instanceMethod yX11_draw, Cond.selects RX11 yX11_draw yX11_draw, Cond.code yX11_draw cX11_draw 3 (some .int), Cond.methodLink RX11 186 yX11_isTeam, Cond.instanceMethod yX11_isTeam, Cond.selects RX11 yX11_isTeam yX11_isTeam, Cond.code yX11_isTeam cX11_isTeam 2 (some .boolean), Cond.methodLink RX11 192 yX2_groupIn, Cond.instanceMethod yX2_groupIn, Cond.selects RX2 yX2_groupIn yX2_groupIn, Cond.code yX2_groupIn cX2_groupIn 3 (some .int), Cond.methodLink RX2 115 yX3_potOf, Cond.instanceMethod yX3_potOf, Cond.selects RX3 yX3_potOf yX3_potOf, Cond.code yX3_potOf cX3_potOf 2 (some .int), Cond.methodLink RX2 118 yX3_placeOf, Cond.instanceMethod yX3_placeOf, Cond.selects RX3 yX3_placeOf yX3_placeOf]
def wsL_law0_r29 : List Cond := [Cond.code yX3_placeOf cX3_placeOf 2 (some .int), Cond.methodLink RL 55 yX12_draw, Cond.instanceMethod yX12_draw, Cond.selects RX12 yX12_draw yX12_draw, Cond.code yX12_draw cX12_draw 5 (some .int), Cond.methodLink RX12 269 yX12_isTeam, Cond.instanceMethod yX12_isTeam, Cond.selects RX12 yX12_isTeam yX12_isTeam, Cond.code yX12_isTeam cX12_isTeam 2 (some .boolean), Cond.methodLink RL 56 yX11_judge, Cond.instanceMethod yX11_judge, Cond.selects RX11 yX11_judge yX11_judge, Cond.code yX11_judge cX11_judge 2 (some .int), Cond.methodLink RX11 196 yX11_isCode, Cond.instanceMethod yX11_isCode, Cond.selects RX11 yX11_isCode yX11_isCode, Cond.code yX11_isCode cX11_isCode 2 (some .boolean), Cond.methodLink RL 59 yX12_judge, Cond.instanceMethod yX12_judge, Cond.selects RX12 yX12_judge yX12_judge, Cond.code yX12_judge cX12_judge 2 (some .int), Cond.methodLink RL 60 yX11_order, Cond.instanceMethod yX11_order, Cond.selects RX11 yX11_order yX11_order]
def wsL_law0_r30 : List Cond := [Cond.code yX11_order cX11_order 2 (some .boolean), Cond.methodLink RX11 214 yX11_readTurns, Cond.static yX11_readTurns, Cond.code yX11_readTurns cX11_readTurns 5 (some .boolean), Cond.methodLink RX11 218 yX8_empty, Cond.methodLink RL 64 yX12_order, Cond.instanceMethod yX12_order, Cond.selects RX12 yX12_order yX12_order, Cond.code yX12_order cX12_order 3 (some .boolean), Cond.methodLink RX12 272 yX12_isOnce, Cond.static yX12_isOnce, Cond.code yX12_isOnce cX12_isOnce 4 (some .boolean), Cond.methodLink RL 65 yX11_ball, Cond.instanceMethod yX11_ball, Cond.selects RX11 yX11_ball yX11_ball, Cond.code yX11_ball cX11_ball 6 (some .int), Cond.methodLink RX11 230 yX3_potOf, Cond.methodLink RX11 233 yX8_potInTurn, Cond.instanceMethod yX8_potInTurn, Cond.selects RX8 yX8_potInTurn yX8_potInTurn, Cond.code yX8_potInTurn cX8_potInTurn 1 (some .int), Cond.methodLink RX8 69 yX8_fullPots, Cond.instanceMethod yX8_fullPots, Cond.selects RX8 yX8_fullPots yX8_fullPots]
def wsL_law0_r31 : List Cond := [Cond.code yX8_fullPots cX8_fullPots 1 (some .int), Cond.methodLink RX8 57 yX3_potOf, Cond.methodLink RX11 237 yX11_treeOfNow, Cond.instanceMethod yX11_treeOfNow, Cond.selects RX11 yX11_treeOfNow yX11_treeOfNow, Cond.code yX11_treeOfNow cX11_treeOfNow 1 (some (.object "BallPots$Tree")), Cond.methodLink RX11 224 yX10_build, Cond.instanceMethod yX10_build, Cond.selects RX10 yX10_build yX10_build, Cond.code yX10_build cX10_build 5 none, Cond.methodLink RX10 25 arraycopyName, Cond.fieldLink RX10 59 "BallPots$Tree" "fresh" "Z", Cond.methodLink RX10 52 yX10_fillLast, Cond.instanceMethod yX10_fillLast, Cond.selects RX10 yX10_fillLast yX10_fillLast, Cond.code yX10_fillLast cX10_fillLast 8 none, Cond.methodLink RX10 66 yX10_codeOf, Cond.instanceMethod yX10_codeOf, Cond.selects RX10 yX10_codeOf yX10_codeOf, Cond.code yX10_codeOf cX10_codeOf 7 (some .int), Cond.methodLink RX10 55 yX10_fillFromNext, Cond.instanceMethod yX10_fillFromNext, Cond.selects RX10 yX10_fillFromNext yX10_fillFromNext, Cond.code yX10_fillFromNext cX10_fillFromNext 7 none]
def wsL_law0_r32 : List Cond := [Cond.methodLink RX11 241 yX8_fullPots, Cond.methodLink RX11 244 yX8_prefix, Cond.instanceMethod yX8_prefix, Cond.selects RX8 yX8_prefix yX8_prefix, Cond.code yX8_prefix cX8_prefix 4 (some .int), Cond.methodLink RX8 100 yX8_rankAtLevel, Cond.instanceMethod yX8_rankAtLevel, Cond.selects RX8 yX8_rankAtLevel yX8_rankAtLevel, Cond.code yX8_rankAtLevel cX8_rankAtLevel 2 (some .int), Cond.methodLink RX8 91 yX8_ranksLeft, Cond.instanceMethod yX8_ranksLeft, Cond.selects RX8 yX8_ranksLeft yX8_ranksLeft, Cond.code yX8_ranksLeft cX8_ranksLeft 2 (some .int), Cond.methodLink RX8 73 yX8_ranksIf, Cond.instanceMethod yX8_ranksIf, Cond.selects RX8 yX8_ranksIf yX8_ranksIf, Cond.code yX8_ranksIf cX8_ranksIf 8 (some .int), Cond.methodLink RX8 94 yX4_only, Cond.methodLink RX11 247 yX10_ranksOpen, Cond.instanceMethod yX10_ranksOpen, Cond.selects RX10 yX10_ranksOpen yX10_ranksOpen, Cond.code yX10_ranksOpen cX10_ranksOpen 4 (some .int), Cond.methodLink RX11 250 yX8_ranksLeft, Cond.methodLink RX11 253 yX3_placeOf]
def wsL_law0_r33 : List Cond := [Cond.methodLink RX11 256 yX4_firstOpen, Cond.instanceMethod yX4_firstOpen, Cond.selects RX4 yX4_firstOpen yX4_firstOpen, Cond.code yX4_firstOpen cX4_firstOpen 6 (some .int), Cond.methodLink RX11 260 yX4_groupWith, Cond.instanceMethod yX4_groupWith, Cond.selects RX4 yX4_groupWith yX4_groupWith, Cond.code yX4_groupWith cX4_groupWith 3 (some .int), Cond.methodLink RX11 263 yX8_put, Cond.instanceMethod yX8_put, Cond.selects RX8 yX8_put yX8_put, Cond.code yX8_put cX8_put 3 none, Cond.methodLink RL 68 yX12_ball, Cond.instanceMethod yX12_ball, Cond.selects RX12 yX12_ball yX12_ball, Cond.code yX12_ball cX12_ball 3 (some .int), Cond.methodLink RX12 278 yX12_placedIn, Cond.instanceMethod yX12_placedIn, Cond.selects RX12 yX12_placedIn yX12_placedIn, Cond.code yX12_placedIn cX12_placedIn 4 (some .int), Cond.methodLink RX12 281 yX12_shut, Cond.instanceMethod yX12_shut, Cond.selects RX12 yX12_shut yX12_shut, Cond.code yX12_shut cX12_shut 5 (some .int)]
def wsL_law0_r34 : List Cond := [Cond.methodLink RX12 275 yX12_isAsPlaced, Cond.instanceMethod yX12_isAsPlaced, Cond.selects RX12 yX12_isAsPlaced yX12_isAsPlaced, Cond.code yX12_isAsPlaced cX12_isAsPlaced 4 (some .boolean), Cond.methodLink RL 69 yX11_why, Cond.instanceMethod yX11_why, Cond.selects RX11 yX11_why yX11_why, Cond.code yX11_why cX11_why 2 (some .int), Cond.methodLink RX11 267 yX11_isGroup, Cond.instanceMethod yX11_isGroup, Cond.selects RX11 yX11_isGroup yX11_isGroup, Cond.code yX11_isGroup cX11_isGroup 2 (some .boolean), Cond.methodLink RX11 270 yX8_reason, Cond.instanceMethod yX8_reason, Cond.selects RX8 yX8_reason yX8_reason, Cond.code yX8_reason cX8_reason 6 (some .int), Cond.methodLink RX8 103 yX8_latest, Cond.instanceMethod yX8_latest, Cond.selects RX8 yX8_latest yX8_latest, Cond.code yX8_latest cX8_latest 1 (some .int), Cond.methodLink RL 72 yX12_why, Cond.instanceMethod yX12_why, Cond.selects RX12 yX12_why yX12_why, Cond.code yX12_why cX12_why 2 (some .int)]
def wsL_law0_r35 : List Cond := [Cond.methodLink RX12 285 yX12_whyOf, Cond.instanceMethod yX12_whyOf, Cond.selects RX12 yX12_whyOf yX12_whyOf, Cond.code yX12_whyOf cX12_whyOf 3 (some .int), Cond.methodLink RL 73 yX11_clear, Cond.instanceMethod yX11_clear, Cond.selects RX11 yX11_clear yX11_clear, Cond.code yX11_clear cX11_clear 2 (some .int), Cond.methodLink RL 76 yX12_clear, Cond.instanceMethod yX12_clear, Cond.selects RX12 yX12_clear yX12_clear, Cond.code yX12_clear cX12_clear 2 (some .int), Cond.methodLink RL 77 yX11_placed, Cond.instanceMethod yX11_placed, Cond.selects RX11 yX11_placed yX11_placed, Cond.code yX11_placed cX11_placed 2 (some .int), Cond.methodLink RL 80 yX12_placed, Cond.instanceMethod yX12_placed, Cond.selects RX12 yX12_placed yX12_placed, Cond.code yX12_placed cX12_placed 2 (some .int), Cond.methodLink RL 81 yX11_arrange, Cond.instanceMethod yX11_arrange, Cond.selects RX11 yX11_arrange yX11_arrange, Cond.code yX11_arrange cX11_arrange 2 (some .boolean)]
def wsL_law0_r36 : List Cond := [Cond.methodLink RL 84 yX12_arrange, Cond.instanceMethod yX12_arrange, Cond.selects RX12 yX12_arrange yX12_arrange, Cond.code yX12_arrange cX12_arrange 3 (some .boolean), Cond.methodLink RL 85 yX11_undo, Cond.instanceMethod yX11_undo, Cond.selects RX11 yX11_undo yX11_undo, Cond.code yX11_undo cX11_undo 1 (some .int), Cond.methodLink RX11 276 yX8_takeBack, Cond.instanceMethod yX8_takeBack, Cond.selects RX8 yX8_takeBack yX8_takeBack, Cond.code yX8_takeBack cX8_takeBack 1 none, Cond.methodLink RL 88 yX12_undo, Cond.instanceMethod yX12_undo, Cond.selects RX12 yX12_undo yX12_undo, Cond.code yX12_undo cX12_undo 1 (some .int), Cond.methodLink RL 89 yX11_ends, Cond.instanceMethod yX11_ends, Cond.selects RX11 yX11_ends yX11_ends, Cond.code yX11_ends cX11_ends 3 (some .int), Cond.methodLink RX11 279 yX8_allow, Cond.instanceMethod yX8_allow, Cond.selects RX8 yX8_allow yX8_allow, Cond.code yX8_allow cX8_allow 4 none]
def wsL_law0_r37 : List Cond := [Cond.methodLink RX11 285 yX2_firstLawful, Cond.instanceMethod yX2_firstLawful, Cond.selects RX2 yX2_firstLawful yX2_firstLawful, Cond.code yX2_firstLawful cX2_firstLawful 3 (some .int), Cond.methodLink RX2 107 yX2_fits, Cond.instanceMethod yX2_fits, Cond.selects RX2 yX2_fits yX2_fits, Cond.code yX2_fits cX2_fits 4 (some .boolean), Cond.methodLink RL 92 yX12_ends, Cond.instanceMethod yX12_ends, Cond.selects RX12 yX12_ends yX12_ends, Cond.code yX12_ends cX12_ends 3 (some .int), Cond.methodLink RL 93 yX11_blame, Cond.instanceMethod yX11_blame, Cond.selects RX11 yX11_blame yX11_blame, Cond.code yX11_blame cX11_blame 2 (some .int), Cond.methodLink RX11 289 yX8_latest, Cond.methodLink RX11 292 yX2_fewestAgainst, Cond.instanceMethod yX2_fewestAgainst, Cond.selects RX2 yX2_fewestAgainst yX2_fewestAgainst, Cond.code yX2_fewestAgainst cX2_fewestAgainst 3 (some .int), Cond.methodLink RX2 111 yX2_fewest, Cond.methodLink RL 96 yX12_blame, Cond.instanceMethod yX12_blame]
def wsL_law0_r38 : List Cond := [Cond.selects RX12 yX12_blame yX12_blame, Cond.code yX12_blame cX12_blame 3 (some .int), Cond.methodLink RL 97 yX11_pair, Cond.instanceMethod yX11_pair, Cond.selects RX11 yX11_pair yX11_pair, Cond.code yX11_pair cX11_pair 4 (some .long), Cond.constantLong RX11 298 (-1), Cond.methodLink RX11 295 yX11_isWay, Cond.static yX11_isWay, Cond.code yX11_isWay cX11_isWay 1 (some .boolean), Cond.methodLink RX11 300 yX11_chancesNow, Cond.instanceMethod yX11_chancesNow, Cond.selects RX11 yX11_chancesNow yX11_chancesNow, Cond.code yX11_chancesNow cX11_chancesNow 3 (some (.object "BallPots$Chances")), Cond.methodLink RX11 325 yX11_chancesAtStart, Cond.instanceMethod yX11_chancesAtStart, Cond.selects RX11 yX11_chancesAtStart yX11_chancesAtStart, Cond.code yX11_chancesAtStart cX11_chancesAtStart 3 (some (.object "BallPots$Chances")), Cond.methodLink RX11 335 yX6_beginAtStart, Cond.instanceMethod yX6_beginAtStart, Cond.selects RX6 yX6_beginAtStart yX6_beginAtStart, Cond.code yX6_beginAtStart cX6_beginAtStart 3 none, Cond.fieldLink RX6 44 "BallPots$Reckoner" "firstLevel" "I", Cond.fieldLink RX6 48 "BallPots$Reckoner" "firstPrefix" "I"]
def wsL_law0_r39 : List Cond := [Cond.fieldLink RX6 56 "BallPots$Reckoner" "firstOpen" "I", Cond.fieldLink RX6 64 "BallPots$Reckoner" "firstLeft" "I", Cond.methodLink RX6 67 yX7_begin, Cond.instanceMethod yX7_begin, Cond.selects RX7 yX7_begin yX7_begin, Cond.code yX7_begin cX7_begin 3 none, Cond.fieldLink RX7 29 "BallPots$Spread" "way" "I", Cond.methodLink RX7 33 arraycopyName, Cond.methodLink RX7 39 yJ7_fill_53178, Cond.methodLink RX11 331 yX6_reckon, Cond.instanceMethod yX6_reckon, Cond.selects RX6 yX6_reckon yX6_reckon, Cond.code yX6_reckon cX6_reckon 3 none, Cond.methodLink RX6 99 yX1_forget, Cond.instanceMethod yX1_forget, Cond.selects RX1 yX1_forget yX1_forget, Cond.code yX1_forget cX1_forget 1 none, Cond.fieldLink RX1 24 "BallPots$Chances" "rows" "J", Cond.methodLink RX1 18 yJ7_fill_d0a16, Cond.static yJ7_fill_d0a16, Cond.code yJ7_fill_d0a16 cJ7_fill_d0a16 5 none, Cond.methodLink RX6 107 yX6_walk, Cond.instanceMethod yX6_walk, Cond.selects RX6 yX6_walk yX6_walk]
def wsL_law0_r40 : List Cond := [Cond.code yX6_walk cX6_walk 11 none, Cond.methodLink RX6 146 arraycopyName, Cond.methodLink RX6 119 yX10_ranksOpen, Cond.methodLink RX6 125 yX7_slotOf, Cond.instanceMethod yX7_slotOf, Cond.selects RX7 yX7_slotOf yX7_slotOf, Cond.code yX7_slotOf cX7_slotOf 3 (some .int), Cond.constant RX7 50 (-1640531535), Cond.methodLink RX6 128 yX7_isKept, Cond.instanceMethod yX7_isKept, Cond.selects RX7 yX7_isKept yX7_isKept, Cond.code yX7_isKept cX7_isKept 3 (some .boolean), Cond.methodLink RX6 132 yX7_fillRows, Cond.instanceMethod yX7_fillRows, Cond.selects RX7 yX7_fillRows yX7_fillRows, Cond.code yX7_fillRows cX7_fillRows 5 none, Cond.methodLink RX7 60 yJ7_fill_d0a16, Cond.methodLink RX7 63 yJ6_bitCount_0f7a4, Cond.methodLink RX7 69 yX7_skip, Cond.instanceMethod yX7_skip, Cond.selects RX7 yX7_skip yX7_skip, Cond.code yX7_skip cX7_skip 5 none, Cond.methodLink RX7 77 yX4_only, Cond.methodLink RX7 83 yX4_firstOpen]
def wsL_law0_r41 : List Cond := [Cond.methodLink RX7 73 yX7_field, Cond.instanceMethod yX7_field, Cond.selects RX7 yX7_field yX7_field, Cond.code yX7_field cX7_field 8 none, Cond.methodLink RX7 90 yX7_groupsOpen, Cond.instanceMethod yX7_groupsOpen, Cond.selects RX7 yX7_groupsOpen yX7_groupsOpen, Cond.code yX7_groupsOpen cX7_groupsOpen 5 (some .int), Cond.methodLink RX7 96 yX7_fieldBall, Cond.instanceMethod yX7_fieldBall, Cond.selects RX7 yX7_fieldBall yX7_fieldBall, Cond.code yX7_fieldBall cX7_fieldBall 9 none, Cond.methodLink RX6 136 yX7_keepRows, Cond.instanceMethod yX7_keepRows, Cond.selects RX7 yX7_keepRows yX7_keepRows, Cond.code yX7_keepRows cX7_keepRows 6 none, Cond.methodLink RX7 51 yJ7_fill_bad5a, Cond.static yJ7_fill_bad5a, Cond.code yJ7_fill_bad5a cJ7_fill_bad5a 6 none, Cond.methodLink RX7 57 yX4_groupAt, Cond.methodLink RX6 139 yX6_addLast, Cond.instanceMethod yX6_addLast, Cond.selects RX6 yX6_addLast yX6_addLast, Cond.code yX6_addLast cX6_addLast 17 none]
def wsL_law0_r42 : List Cond := [Cond.methodLink RX6 111 yX6_addAhead, Cond.instanceMethod yX6_addAhead, Cond.selects RX6 yX6_addAhead yX6_addAhead, Cond.code yX6_addAhead cX6_addAhead 12 none, Cond.methodLink RX11 328 yX6_beginAtStage, Cond.instanceMethod yX6_beginAtStage, Cond.selects RX6 yX6_beginAtStage yX6_beginAtStage, Cond.code yX6_beginAtStage cX6_beginAtStage 3 none, Cond.methodLink RX6 76 yX6_beginAtStart, Cond.methodLink RX6 79 yX8_fullPots, Cond.methodLink RX6 83 yX8_prefix, Cond.methodLink RX6 86 yX8_rankAtLevel, Cond.methodLink RX6 90 yX8_potInTurn, Cond.methodLink RX6 93 yX8_ranksLeft, Cond.methodLink RX6 96 yX8_placesLeft, Cond.instanceMethod yX8_placesLeft, Cond.selects RX8 yX8_placesLeft yX8_placesLeft, Cond.code yX8_placesLeft cX8_placesLeft 4 (some .int), Cond.methodLink RX11 304 yX1_ofPair, Cond.instanceMethod yX1_ofPair, Cond.selects RX1 yX1_ofPair yX1_ofPair, Cond.code yX1_ofPair cX1_ofPair 3 (some .long), Cond.methodLink RL 101 yX12_pair, Cond.instanceMethod yX12_pair]
def wsL_law0_r43 : List Cond := [Cond.selects RX12 yX12_pair yX12_pair, Cond.code yX12_pair cX12_pair 4 (some .long), Cond.constantLong RX12 327 (-1), Cond.methodLink RX12 324 yX12_isWay, Cond.static yX12_isWay, Cond.code yX12_isWay cX12_isWay 1 (some .boolean), Cond.methodLink RX12 329 yX12_layStage, Cond.instanceMethod yX12_layStage, Cond.selects RX12 yX12_layStage yX12_layStage, Cond.code yX12_layStage cX12_layStage 2 none, Cond.methodLink RX12 304 yX12_turnsAs, Cond.instanceMethod yX12_turnsAs, Cond.selects RX12 yX12_turnsAs yX12_turnsAs, Cond.code yX12_turnsAs cX12_turnsAs 2 none, Cond.methodLink RX12 307 yX12_layWeights, Cond.instanceMethod yX12_layWeights, Cond.selects RX12 yX12_layWeights yX12_layWeights, Cond.code yX12_layWeights cX12_layWeights 10 none, Cond.fieldLink RX12 288 "BallPotsModel" "parts" "I", Cond.methodLink RX12 311 yX12_layMasks, Cond.instanceMethod yX12_layMasks, Cond.selects RX12 yX12_layMasks yX12_layMasks, Cond.code yX12_layMasks cX12_layMasks 6 none, Cond.methodLink RX12 314 yX12_placedPart]
def wsL_law0_r44 : List Cond := [Cond.instanceMethod yX12_placedPart, Cond.selects RX12 yX12_placedPart yX12_placedPart, Cond.code yX12_placedPart cX12_placedPart 5 (some .int), Cond.methodLink RX12 317 yX12_rankOf, Cond.instanceMethod yX12_rankOf, Cond.selects RX12 yX12_rankOf yX12_rankOf, Cond.code yX12_rankOf cX12_rankOf 4 (some .int), Cond.methodLink RX12 294 yX12_agreeing, Cond.instanceMethod yX12_agreeing, Cond.selects RX12 yX12_agreeing yX12_agreeing, Cond.code yX12_agreeing cX12_agreeing 5 (some .int), Cond.methodLink RX12 291 yX12_digit, Cond.instanceMethod yX12_digit, Cond.selects RX12 yX12_digit yX12_digit, Cond.code yX12_digit cX12_digit 3 (some .int), Cond.methodLink RX12 320 yX12_pot, Cond.instanceMethod yX12_pot, Cond.selects RX12 yX12_pot yX12_pot, Cond.code yX12_pot cX12_pot 9 none, Cond.methodLink RX12 300 yX12_comes, Cond.instanceMethod yX12_comes, Cond.selects RX12 yX12_comes yX12_comes, Cond.code yX12_comes cX12_comes 10 none, Cond.methodLink RX12 297 yX12_share]
def wsL_law0_r45 : List Cond := [Cond.static yX12_share, Cond.code yX12_share cX12_share 1 (some .int), Cond.methodLink RX12 333 yX12_pairRows, Cond.instanceMethod yX12_pairRows, Cond.selects RX12 yX12_pairRows yX12_pairRows, Cond.code yX12_pairRows cX12_pairRows 6 (some .long), Cond.methodLink RL 102 yX11_place, Cond.instanceMethod yX11_place, Cond.selects RX11 yX11_place yX11_place, Cond.code yX11_place cX11_place 4 (some .long), Cond.methodLink RX11 308 yX1_ofPlace, Cond.instanceMethod yX1_ofPlace, Cond.selects RX1 yX1_ofPlace yX1_ofPlace, Cond.code yX1_ofPlace cX1_ofPlace 3 (some .long), Cond.methodLink RL 105 yX12_place, Cond.instanceMethod yX12_place, Cond.selects RX12 yX12_place yX12_place, Cond.code yX12_place cX12_place 7 (some .long), Cond.methodLink RL 106 yX11_all, Cond.instanceMethod yX11_all, Cond.selects RX11 yX11_all yX11_all, Cond.code yX11_all cX11_all 2 (some .long), Cond.fieldLink RX11 315 "BallPots" "SKIP_ROWS" "[I", Cond.fieldLink RX11 318 "BallPots" "FIELD_ROWS" "[I"]
def wsL_law0_r46 : List Cond := [Cond.methodLink RX11 321 yX8_rowsLeft, Cond.instanceMethod yX8_rowsLeft, Cond.selects RX8 yX8_rowsLeft yX8_rowsLeft, Cond.code yX8_rowsLeft cX8_rowsLeft 7 (some .long), Cond.methodLink RX8 106 yX8_begun, Cond.instanceMethod yX8_begun, Cond.selects RX8 yX8_begun yX8_begun, Cond.code yX8_begun cX8_begun 1 (some .int), Cond.methodLink RX8 63 yX3_placeOf, Cond.methodLink RL 110 yX12_all, Cond.instanceMethod yX12_all, Cond.selects RX12 yX12_all yX12_all, Cond.code yX12_all cX12_all 2 (some .long), Cond.methodLink RX12 337 yX12_allRows, Cond.instanceMethod yX12_allRows, Cond.selects RX12 yX12_allRows yX12_allRows, Cond.code yX12_allRows cX12_allRows 4 (some .long), Cond.methodLink RL 111 yX11_apart, Cond.instanceMethod yX11_apart, Cond.selects RX11 yX11_apart yX11_apart, Cond.code yX11_apart cX11_apart 8 (some .long), Cond.constantLong RX11 341 (-9223372036854775808), Cond.methodLink RX11 343 yX11_farthest, Cond.instanceMethod yX11_farthest]
def wsL_law0_r47 : List Cond := [Cond.selects RX11 yX11_farthest yX11_farthest, Cond.code yX11_farthest cX11_farthest 10 (some .int), Cond.methodLink RX11 361 Lib.MathLoose.abs_long.x, Cond.static Lib.MathLoose.abs_long.x, Cond.code Lib.MathLoose.abs_long.x Lib.MathLoose.abs_long.code 2 (some .long), Cond.methodLink RX11 358 yX3_nextPotAfter, Cond.instanceMethod yX3_nextPotAfter, Cond.selects RX3 yX3_nextPotAfter yX3_nextPotAfter, Cond.code yX3_nextPotAfter cX3_nextPotAfter 2 (some .int), Cond.methodLink RX3 56 yX3_potOf, Cond.methodLink RX11 354 yX11_far, Cond.static yX11_far, Cond.code yX11_far cX11_far 4 (some .long), Cond.methodLink RX11 347 yX11_sizeOfFarthest, Cond.instanceMethod yX11_sizeOfFarthest, Cond.selects RX11 yX11_sizeOfFarthest yX11_sizeOfFarthest, Cond.code yX11_sizeOfFarthest cX11_sizeOfFarthest 4 (some .long), Cond.methodLink RX11 351 yX11_sumOfFar, Cond.instanceMethod yX11_sumOfFar, Cond.selects RX11 yX11_sumOfFar yX11_sumOfFar, Cond.code yX11_sumOfFar cX11_sumOfFar 7 (some .long), Cond.methodLink RL 114 yX12_apart, Cond.instanceMethod yX12_apart, Cond.selects RX12 yX12_apart yX12_apart]
def wsL_law0_r48 : List Cond := [Cond.code yX12_apart cX12_apart 4 (some .long), Cond.constantLong RX12 360 (-9223372036854775808), Cond.fieldLink RX12 345 "BallPotsModel" "apart" "J", Cond.fieldLink RX12 348 "BallPotsModel" "sum" "J", Cond.fieldLink RX12 351 "BallPotsModel" "farOne" "I", Cond.fieldLink RX12 354 "BallPotsModel" "farOther" "I", Cond.fieldLink RX12 357 "BallPotsModel" "far" "J", Cond.fieldLink RX12 341 "BallPotsModel" "beneath" "J", Cond.methodLink RX12 362 yX12_layApart, Cond.instanceMethod yX12_layApart, Cond.selects RX12 yX12_layApart yX12_layApart, Cond.code yX12_layApart cX12_layApart 13 none, Cond.methodLink RL 115 yX11_nearest, Cond.instanceMethod yX11_nearest, Cond.selects RX11 yX11_nearest yX11_nearest, Cond.code yX11_nearest cX11_nearest 3 (some .int), Cond.methodLink RX11 367 yX11_findNearest, Cond.instanceMethod yX11_findNearest, Cond.selects RX11 yX11_findNearest yX11_findNearest, Cond.code yX11_findNearest cX11_findNearest 11 (some .int), Cond.constantLong RX11 371 (9223372036854775807), Cond.methodLink RX11 373 yX4_readRow, Cond.methodLink RX11 376 yX11_likeAnEarlierOne, Cond.instanceMethod yX11_likeAnEarlierOne]
def wsL_law0_r49 : List Cond := [Cond.selects RX11 yX11_likeAnEarlierOne yX11_likeAnEarlierOne, Cond.code yX11_likeAnEarlierOne cX11_likeAnEarlierOne 4 (some .boolean), Cond.methodLink RX11 390 yX3_isGroupNamed, Cond.instanceMethod yX3_isGroupNamed, Cond.selects RX3 yX3_isGroupNamed yX3_isGroupNamed, Cond.code yX3_isGroupNamed cX3_isGroupNamed 2 (some .boolean), Cond.methodLink RX11 380 yX11_apartByOrder, Cond.instanceMethod yX11_apartByOrder, Cond.selects RX11 yX11_apartByOrder yX11_apartByOrder, Cond.code yX11_apartByOrder cX11_apartByOrder 3 (some .long), Cond.methodLink RX11 384 yX11_apartByArrangement, Cond.instanceMethod yX11_apartByArrangement, Cond.selects RX11 yX11_apartByArrangement yX11_apartByArrangement, Cond.code yX11_apartByArrangement cX11_apartByArrangement 3 (some .long), Cond.methodLink RX11 387 yX11_bitsOf, Cond.static yX11_bitsOf, Cond.code yX11_bitsOf cX11_bitsOf 4 (some .int), Cond.methodLink RL 118 yX12_nearest, Cond.instanceMethod yX12_nearest, Cond.selects RX12 yX12_nearest yX12_nearest, Cond.code yX12_nearest cX12_nearest 9 (some .int), Cond.methodLink RL 119 yX11_leads, Cond.instanceMethod yX11_leads, Cond.selects RX11 yX11_leads yX11_leads]
def wsL_law0_r50 : List Cond := [Cond.code yX11_leads cX11_leads 9 (some .int), Cond.methodLink RX11 393 yX2_rankIn, Cond.methodLink RX11 396 yX4_groupAt, Cond.methodLink RX11 398 yX4_only, Cond.methodLink RL 122 yX12_leads, Cond.instanceMethod yX12_leads, Cond.selects RX12 yX12_leads yX12_leads, Cond.code yX12_leads cX12_leads 6 (some .int), Cond.methodLink RX12 369 yX12_put, Cond.instanceMethod yX12_put, Cond.selects RX12 yX12_put yX12_put, Cond.code yX12_put cX12_put 6 (some .int), Cond.methodLink RX12 366 yX12_putOne, Cond.instanceMethod yX12_putOne, Cond.selects RX12 yX12_putOne yX12_putOne, Cond.code yX12_putOne cX12_putOne 6 (some .int), Cond.methodLink RL 123 yX11_moves, Cond.instanceMethod yX11_moves, Cond.selects RX11 yX11_moves yX11_moves, Cond.code yX11_moves cX11_moves 8 (some .long), Cond.methodLink RX11 407 yX0_pairsWithout, Cond.instanceMethod yX0_pairsWithout, Cond.selects RX0 yX0_pairsWithout yX0_pairsWithout, Cond.code yX0_pairsWithout cX0_pairsWithout 8 (some .long)]
def wsL_law0_r51 : List Cond := [Cond.methodLink RX0 90 Lib.Math.min.name, Cond.methodLink RX0 95 Lib.Math.max.name, Cond.static Lib.Math.max.name, Cond.code Lib.Math.max.name Lib.Math.max.code 2 (some .int), Cond.methodLink RX0 87 yX0_refresh, Cond.instanceMethod yX0_refresh, Cond.selects RX0 yX0_refresh yX0_refresh, Cond.code yX0_refresh cX0_refresh 6 none, Cond.fieldLink RX0 31 "BallPots$BarTable" "fresh" "Z", Cond.methodLink RX0 41 yX0_firstKind, Cond.static yX0_firstKind, Cond.code yX0_firstKind cX0_firstKind 1 (some .int), Cond.methodLink RX0 45 yJ7_fill_53178, Cond.methodLink RX0 57 yJ6_bitCount_0f7a4, Cond.methodLink RX0 62 yX4_only, Cond.methodLink RX0 67 yX0_kindOf, Cond.static yX0_kindOf, Cond.code yX0_kindOf cX0_kindOf 2 (some .int), Cond.methodLink RX0 71 yX0_addDraw, Cond.instanceMethod yX0_addDraw, Cond.selects RX0 yX0_addDraw yX0_addDraw, Cond.code yX0_addDraw cX0_addDraw 10 none, Cond.methodLink RX0 78 yX2_rankIn, Cond.methodLink RL 126 yX12_moves]
def wsL_law0_r52 : List Cond := [Cond.instanceMethod yX12_moves, Cond.selects RX12 yX12_moves yX12_moves, Cond.code yX12_moves cX12_moves 9 (some .long), Cond.methodLink RL 127 yX11_leave, Cond.instanceMethod yX11_leave, Cond.selects RX11 yX11_leave yX11_leave, Cond.code yX11_leave cX11_leave 4 (some .int), Cond.methodLink RX11 411 yX0_isEvenEnough, Cond.instanceMethod yX0_isEvenEnough, Cond.selects RX0 yX0_isEvenEnough yX0_isEvenEnough, Cond.code yX0_isEvenEnough cX0_isEvenEnough 9 (some .boolean), Cond.constantLong RX0 111 (100), Cond.methodLink RX0 104 yX3_nextPotAfter, Cond.methodLink RX0 107 yX0_pairsWithout, Cond.methodLink RL 130 yX12_leave, Cond.instanceMethod yX12_leave, Cond.selects RX12 yX12_leave yX12_leave, Cond.code yX12_leave cX12_leave 4 (some .int), Cond.methodLink RX12 374 yX12_isEven, Cond.instanceMethod yX12_isEven, Cond.selects RX12 yX12_isEven yX12_isEven, Cond.code yX12_isEven cX12_isEven 7 (some .boolean), Cond.constantLong RX12 372 (100), Cond.methodLink RL 131 yX11_parts]
def wsL_law0_r53 : List Cond := [Cond.instanceMethod yX11_parts, Cond.selects RX11 yX11_parts yX11_parts, Cond.code yX11_parts cX11_parts 2 (some .int), Cond.methodLink RX11 415 yX9_howManyParts, Cond.instanceMethod yX9_howManyParts, Cond.selects RX9 yX9_howManyParts yX9_howManyParts, Cond.code yX9_howManyParts cX9_howManyParts 1 (some .int), Cond.fieldLink RX9 40 "BallPots$Swaps" "manyParts" "I", Cond.methodLink RX9 37 yX9_findParts, Cond.instanceMethod yX9_findParts, Cond.selects RX9 yX9_findParts yX9_findParts, Cond.code yX9_findParts cX9_findParts 3 none, Cond.fieldLink RX9 43 "BallPots$Swaps" "firstPart" "I", Cond.fieldLink RX9 46 "BallPots$Swaps" "greatestPart" "I", Cond.fieldLink RX9 61 "BallPots$Swaps" "queued" "I", Cond.methodLink RX9 74 Lib.Math.max.name, Cond.methodLink RX9 58 yX9_clearRows, Cond.instanceMethod yX9_clearRows, Cond.selects RX9 yX9_clearRows yX9_clearRows, Cond.code yX9_clearRows cX9_clearRows 1 none, Cond.methodLink RX9 52 yJ7_fill_fda19, Cond.methodLink RX9 70 yX9_sizeOfPart, Cond.instanceMethod yX9_sizeOfPart, Cond.selects RX9 yX9_sizeOfPart yX9_sizeOfPart]
def wsL_law0_r54 : List Cond := [Cond.code yX9_sizeOfPart cX9_sizeOfPart 4 (some .int), Cond.methodLink RX9 80 yX9_meet, Cond.instanceMethod yX9_meet, Cond.selects RX9 yX9_meet yX9_meet, Cond.code yX9_meet cX9_meet 2 none, Cond.methodLink RX9 84 yX9_meetSwapped, Cond.instanceMethod yX9_meetSwapped, Cond.selects RX9 yX9_meetSwapped yX9_meetSwapped, Cond.code yX9_meetSwapped cX9_meetSwapped 8 none, Cond.methodLink RX9 99 yX2_rankIn, Cond.methodLink RX11 418 yX9_sizeOfFirstPart, Cond.instanceMethod yX9_sizeOfFirstPart, Cond.selects RX9 yX9_sizeOfFirstPart yX9_sizeOfFirstPart, Cond.code yX9_sizeOfFirstPart cX9_sizeOfFirstPart 1 (some .int), Cond.methodLink RX11 421 yX9_sizeOfGreatestPart, Cond.instanceMethod yX9_sizeOfGreatestPart, Cond.selects RX9 yX9_sizeOfGreatestPart yX9_sizeOfGreatestPart, Cond.code yX9_sizeOfGreatestPart cX9_sizeOfGreatestPart 1 (some .int), Cond.methodLink RL 134 yX12_parts, Cond.instanceMethod yX12_parts, Cond.selects RX12 yX12_parts yX12_parts, Cond.code yX12_parts cX12_parts 7 (some .int), Cond.methodLink RX12 377 yX12_laySwaps, Cond.instanceMethod yX12_laySwaps]
def wsL_law0_r55 : List Cond := [Cond.selects RX12 yX12_laySwaps yX12_laySwaps, Cond.code yX12_laySwaps cX12_laySwaps 8 none, Cond.methodLink RX12 380 yX12_fills, Cond.instanceMethod yX12_fills, Cond.selects RX12 yX12_fills yX12_fills, Cond.code yX12_fills cX12_fills 10 (some .int), Cond.methodLink RX12 383 yX12_swapped, Cond.instanceMethod yX12_swapped, Cond.selects RX12 yX12_swapped yX12_swapped, Cond.code yX12_swapped cX12_swapped 6 (some .int), Cond.methodLink RL 135 yX11_mix, Cond.instanceMethod yX11_mix, Cond.selects RX11 yX11_mix yX11_mix, Cond.code yX11_mix cX11_mix 3 (some .int), Cond.methodLink RX11 424 yX9_rowsTo, Cond.instanceMethod yX9_rowsTo, Cond.selects RX9 yX9_rowsTo yX9_rowsTo, Cond.code yX9_rowsTo cX9_rowsTo 3 (some .int), Cond.methodLink RX9 113 yX9_swapTimes, Cond.instanceMethod yX9_swapTimes, Cond.selects RX9 yX9_swapTimes yX9_swapTimes, Cond.code yX9_swapTimes cX9_swapTimes 3 none, Cond.methodLink RX9 124 yX9_swapOnce, Cond.instanceMethod yX9_swapOnce]
def wsL_law0_r56 : List Cond := [Cond.selects RX9 yX9_swapOnce yX9_swapOnce, Cond.code yX9_swapOnce cX9_swapOnce 3 none, Cond.methodLink RX9 127 yX9_pass, Cond.instanceMethod yX9_pass, Cond.selects RX9 yX9_pass yX9_pass, Cond.code yX9_pass cX9_pass 9 none, Cond.methodLink RL 138 yX12_mix, Cond.instanceMethod yX12_mix, Cond.selects RX12 yX12_mix yX12_mix, Cond.code yX12_mix cX12_mix 3 (some .int), Cond.methodLink RX12 393 yX12_mixes, Cond.instanceMethod yX12_mixes, Cond.selects RX12 yX12_mixes yX12_mixes, Cond.code yX12_mixes cX12_mixes 5 none, Cond.fieldLink RX12 387 "BallPotsModel" "rowsInAll" "J", Cond.methodLink RX12 390 yX12_mixesOne, Cond.instanceMethod yX12_mixesOne, Cond.selects RX12 yX12_mixesOne yX12_mixesOne, Cond.code yX12_mixesOne cX12_mixesOne 6 none, Cond.methodLink RL 139 yX11_mixed, Cond.instanceMethod yX11_mixed, Cond.selects RX11 yX11_mixed yX11_mixed, Cond.code yX11_mixed cX11_mixed 3 (some .long), Cond.methodLink RX11 427 yX9_uneven]
def wsL_law0_r57 : List Cond := [Cond.instanceMethod yX9_uneven, Cond.selects RX9 yX9_uneven yX9_uneven, Cond.code yX9_uneven cX9_uneven 9 (some .long), Cond.methodLink RX9 120 Lib.MathLoose.abs_long.x, Cond.methodLink RX9 116 yX9_allRows, Cond.instanceMethod yX9_allRows, Cond.selects RX9 yX9_allRows yX9_allRows, Cond.code yX9_allRows cX9_allRows 7 (some .long), Cond.methodLink RX11 431 yX9_allRows, Cond.methodLink RL 143 yX12_mixed, Cond.instanceMethod yX12_mixed, Cond.selects RX12 yX12_mixed yX12_mixed, Cond.code yX12_mixed cX12_mixed 8 (some .long), Cond.methodLink RL 144 yX11_run, Cond.instanceMethod yX11_run, Cond.selects RX11 yX11_run yX11_run, Cond.code yX11_run cX11_run 11 (some .int), Cond.fieldLink RX11 434 "BallPots" "IN_TURN" "[I", Cond.methodLink RX11 437 yX11_numberAfter, Cond.static yX11_numberAfter, Cond.code yX11_numberAfter cX11_numberAfter 1 (some .int), Cond.constant RX11 443 (1103515245), Cond.constant RX11 446 (2147483647), Cond.methodLink RX11 440 yX11_nthOf]
def wsL_law0_r58 : List Cond := [Cond.static yX11_nthOf, Cond.code yX11_nthOf cX11_nthOf 4 (some .int), Cond.methodLink RL 147 yX12_run, Cond.instanceMethod yX12_run, Cond.selects RX12 yX12_run yX12_run, Cond.code yX12_run cX12_run 11 (some .int), Cond.constantLong RX12 406 (65536), Cond.methodLink RX12 402 yX12_comesNext, Cond.static yX12_comesNext, Cond.code yX12_comesNext cX12_comesNext 2 (some .long), Cond.constantLong RX12 396 (1103515245), Cond.constantLong RX12 398 (12345), Cond.constantLong RX12 400 (2147483647), Cond.methodLink RL 148 yX11_evenly, Cond.instanceMethod yX11_evenly, Cond.selects RX11 yX11_evenly yX11_evenly, Cond.code yX11_evenly cX11_evenly 11 (some .int), Cond.constantLong RX11 447 (2147483648), Cond.constant RX11 449 (1000000), Cond.methodLink RL 151 yX12_evenly, Cond.instanceMethod yX12_evenly, Cond.selects RX12 yX12_evenly yX12_evenly, Cond.code yX12_evenly cX12_evenly 8 (some .int), Cond.constantLong RX12 408 (2147483648)]
def wsL_law0_r59 : List Cond := [Cond.methodLink RL 152 yL_look, Cond.static yL_look, Cond.initialized RL, Cond.codeWith yL_look cL_look 5 (some .int) [(0, 10, 13, 13), (0, 10, 17, 15)], Cond.classLink RL 13 "java/lang/IndexOutOfBoundsException", Cond.classLink RL 15 "java/util/NoSuchElementException", Cond.methodLink RL 7 yX11_look, Cond.instanceMethod yX11_look, Cond.selects RX11 yX11_look yX11_look, Cond.code yX11_look cX11_look 3 (some .int), Cond.classLink RX11 450 "java/lang/IndexOutOfBoundsException", Cond.initialized "java/lang/IndexOutOfBoundsException", Cond.classLink RX11 457 "java/util/NoSuchElementException", Cond.initialized "java/util/NoSuchElementException", Cond.methodLink RL 157 yX12_look, Cond.instanceMethod yX12_look, Cond.selects RX12 yX12_look yX12_look, Cond.code yX12_look cX12_look 5 (some .int), Cond.methodLink RX12 410 yX12_fails, Cond.instanceMethod yX12_fails, Cond.selects RX12 yX12_fails yX12_fails, Cond.code yX12_fails cX12_fails 2 (some .int), Cond.methodLink RL 158 yX12_thrown, Cond.instanceMethod yX12_thrown]
def wsL_law0_r60 : List Cond := [Cond.selects RX12 yX12_thrown yX12_thrown, Cond.code yX12_thrown cX12_thrown 1 (some .int), Cond.methodLink RL 161 yX11_count, Cond.instanceMethod yX11_count, Cond.selects RX11 yX11_count yX11_count, Cond.code yX11_count cX11_count 2 (some .int), Cond.methodLink RL 164 yX12_count, Cond.instanceMethod yX12_count, Cond.selects RX12 yX12_count yX12_count, Cond.code yX12_count cX12_count 2 (some .int)]
def wsL_law0 : List Cond := (wsL_law0_r1 ++ (wsL_law0_r2 ++ (wsL_law0_r3 ++ (wsL_law0_r4 ++ (wsL_law0_r5 ++ (wsL_law0_r6 ++ (wsL_law0_r7 ++ (wsL_law0_r8 ++ (wsL_law0_r9 ++ (wsL_law0_r10 ++ (wsL_law0_r11 ++ (wsL_law0_r12 ++ (wsL_law0_r13 ++ (wsL_law0_r14 ++ (wsL_law0_r15 ++ (wsL_law0_r16 ++ (wsL_law0_r17 ++ (wsL_law0_r18 ++ (wsL_law0_r19 ++ (wsL_law0_r20 ++ (wsL_law0_r21 ++ (wsL_law0_r22 ++ (wsL_law0_r23 ++ (wsL_law0_r24 ++ (wsL_law0_r25 ++ (wsL_law0_r26 ++ (wsL_law0_r27 ++ (wsL_law0_r28 ++ (wsL_law0_r29 ++ (wsL_law0_r30 ++ (wsL_law0_r31 ++ (wsL_law0_r32 ++ (wsL_law0_r33 ++ (wsL_law0_r34 ++ (wsL_law0_r35 ++ (wsL_law0_r36 ++ (wsL_law0_r37 ++ (wsL_law0_r38 ++ (wsL_law0_r39 ++ (wsL_law0_r40 ++ (wsL_law0_r41 ++ (wsL_law0_r42 ++ (wsL_law0_r43 ++ (wsL_law0_r44 ++ (wsL_law0_r45 ++ (wsL_law0_r46 ++ (wsL_law0_r47 ++ (wsL_law0_r48 ++ (wsL_law0_r49 ++ (wsL_law0_r50 ++ (wsL_law0_r51 ++ (wsL_law0_r52 ++ (wsL_law0_r53 ++ (wsL_law0_r54 ++ (wsL_law0_r55 ++ (wsL_law0_r56 ++ (wsL_law0_r57 ++ (wsL_law0_r58 ++ (wsL_law0_r59 ++ wsL_law0_r60))))))))))))))))))))))))))))))))))))))))))))))))))))))))))) ++ wsX110 ++ wsX120 ++ wsX30 ++ wsX50 ++ wsX40 ++ wsX20 ++ wsX80 ++ wsX100 ++ wsX60 ++ wsX10 ++ wsX00 ++ wsX90 ++ wsX70 ++ wsJx000600 ++ ([] : List Cond)
def wsL_law : List Cond := wsL_law0 ++ (vx_atM "java/lang/ArrayIndexOutOfBoundsException" ["java/lang/IndexOutOfBoundsException", "java/lang/RuntimeException", "java/lang/Exception"]).filter goodWord ++ (vx_atS RX11 454 "java/lang/IndexOutOfBoundsException" ["java/lang/RuntimeException", "java/lang/Exception"]).filter goodWord ++ (vx_atS RX11 461 "java/util/NoSuchElementException" ["java/lang/RuntimeException", "java/lang/Exception"]).filter goodWord
set_option maxRecDepth 20000 in
theorem wsL_law_in0 : ∀ w ∈ wsL_law0, w ∈ lw_tbl := fun w h => (goodIn_p wsL_law0 [156, 159, 164, 233, 272, 321, 383, 420, 444, 450, 510, 534, 557, 593, 597, 600, 603, 607, 611, 615, 619, 622, 625, 632, 635, 638, 951, 956, 960, 965, 969, 973, 977, 984, 989, 993, 997, 1778, 1784, 1788, 1792, 1796, 1800, 1804, 1808, 1056, 1060, 2016, 1064, 1068, 760, 1073, 1077, 1080, 1083, 1087, 1090, 1094, 1098, 1102, 1107, 1111, 1115, 1119, 1123, 1126, 1130, 1133, 1137, 1141, 1145, 1149, 1153, 1157, 1161, 1165, 1169, 1173, 1177, 1181, 1185, 1189, 1193, 1197, 2020, 2024, 2028, 2032, 2036, 2040, 2044, 2048, 2052, 2056, 2060, 2064, 2068, 2072, 1202, 2076, 1206, 2080, 2083, 1212, 2087, 1216, 1220, 2091, 2095, 1224, 1227, 2099, 2103, 2106, 1232, 1236, 1240, 1244, 1248, 2110, 2114, 1252, 1256, 2118, 1260, 1263, 2122, 2125, 1272, 1277, 1281, 1286, 1290, 1295, 1299, 1303, 1308, 1312, 1316, 1320, 1325, 1331, 1335, 1339, 2133, 2137, 2141, 2145, 1343, 1347, 1351, 1355, 2149, 2153, 1359, 2161, 1363, 2169, 1268, 2129, 1367, 1371, 2165, 1375, 1379, 1383, 1387, 2173, 1391, 1396, 2157, 1401, 1404, 1409, 1413, 1417, 1421, 1427, 1431, 1434, 1438, 1443, 1448, 1452, 1458, 1466, 1472, 1478, 1482, 1485, 1490, 1494, 1499, 1509, 1513, 2177, 2180, 2185, 2189, 2193, 2197, 2201, 2205, 2209, 2213, 2217, 2221, 2224, 2228, 1517, 1521, 2232, 1525, 1531, 1535, 2236, 2240, 1540, 1545, 1556, 1549, 1553, 1560, 1564, 2244, 2249, 1568, 1572, 1578, 1582, 1586, 1590, 1593, 2253, 1597, 2257, 2261, 2265, 1604, 1608, 742, 1612, 1615, 1621, 1625, 2269, 1632, 1636, 2273, 2277, 1643, 1647, 1651, 1655, 1660, 1664, 1668, 1674, 1678, 2282, 2286, 2290, 2294, 1682, 1686, 1690, 1694, 1698, 2298, 2302, 2306, 1702, 1706, 1710, 2310, 1716, 1720, 1725, 2314, 2317, 1729, 2325, 1744, 2330, 2334, 2012, 1735, 2338] (by decide +kernel) (by decide +kernel) w h).1
theorem wsL_law_x0 : ∀ w ∈ (vx_atM "java/lang/ArrayIndexOutOfBoundsException" ["java/lang/IndexOutOfBoundsException", "java/lang/RuntimeException", "java/lang/Exception"]).filter goodWord, w ∈ lw_tbl := by decide +kernel
theorem wsL_law_x1 : ∀ w ∈ (vx_atS RX11 454 "java/lang/IndexOutOfBoundsException" ["java/lang/RuntimeException", "java/lang/Exception"]).filter goodWord, w ∈ lw_tbl := by decide +kernel
theorem wsL_law_x2 : ∀ w ∈ (vx_atS RX11 461 "java/util/NoSuchElementException" ["java/lang/RuntimeException", "java/lang/Exception"]).filter goodWord, w ∈ lw_tbl := by decide +kernel
theorem wsL_law_in : ∀ w ∈ wsL_law, w ∈ lw_tbl := fun w h => (List.mem_append.mp h).elim (fun h => (List.mem_append.mp h).elim (fun h => (List.mem_append.mp h).elim (fun h => wsL_law_in0 w h) (fun h => wsL_law_x0 w h)) (fun h => wsL_law_x1 w h)) (fun h => wsL_law_x2 w h)
theorem inlX0 : ∀ w ∈ wsX00, w ∈ wsL_law := fun _ h => List.mem_append_left _ (List.mem_append_left _ (List.mem_append_left _ (List.mem_append_left _ (List.mem_append_left _ (List.mem_append_left _ (List.mem_append_left _ (List.mem_append_right _ h)))))))
theorem inX0 : ∀ w ∈ wsX00, w ∈ lw_tbl := fun w h => wsL_law_in w (inlX0 w h)
theorem inlX1 : ∀ w ∈ wsX10, w ∈ wsL_law := fun _ h => List.mem_append_left _ (List.mem_append_left _ (List.mem_append_left _ (List.mem_append_left _ (List.mem_append_left _ (List.mem_append_left _ (List.mem_append_left _ (List.mem_append_left _ (List.mem_append_right _ h))))))))
theorem inX1 : ∀ w ∈ wsX10, w ∈ lw_tbl := fun w h => wsL_law_in w (inlX1 w h)
theorem inlX2 : ∀ w ∈ wsX20, w ∈ wsL_law := fun _ h => List.mem_append_left _ (List.mem_append_left _ (List.mem_append_left _ (List.mem_append_left _ (List.mem_append_left _ (List.mem_append_left _ (List.mem_append_left _ (List.mem_append_left _ (List.mem_append_left _ (List.mem_append_left _ (List.mem_append_left _ (List.mem_append_left _ (List.mem_append_right _ h))))))))))))
theorem inX2 : ∀ w ∈ wsX20, w ∈ lw_tbl := fun w h => wsL_law_in w (inlX2 w h)
theorem inlX3 : ∀ w ∈ wsX30, w ∈ wsL_law := fun _ h => List.mem_append_left _ (List.mem_append_left _ (List.mem_append_left _ (List.mem_append_left _ (List.mem_append_left _ (List.mem_append_left _ (List.mem_append_left _ (List.mem_append_left _ (List.mem_append_left _ (List.mem_append_left _ (List.mem_append_left _ (List.mem_append_left _ (List.mem_append_left _ (List.mem_append_left _ (List.mem_append_left _ (List.mem_append_right _ h)))))))))))))))
theorem inX3 : ∀ w ∈ wsX30, w ∈ lw_tbl := fun w h => wsL_law_in w (inlX3 w h)
theorem inlX4 : ∀ w ∈ wsX40, w ∈ wsL_law := fun _ h => List.mem_append_left _ (List.mem_append_left _ (List.mem_append_left _ (List.mem_append_left _ (List.mem_append_left _ (List.mem_append_left _ (List.mem_append_left _ (List.mem_append_left _ (List.mem_append_left _ (List.mem_append_left _ (List.mem_append_left _ (List.mem_append_left _ (List.mem_append_left _ (List.mem_append_right _ h)))))))))))))
theorem inX4 : ∀ w ∈ wsX40, w ∈ lw_tbl := fun w h => wsL_law_in w (inlX4 w h)
theorem inlX5 : ∀ w ∈ wsX50, w ∈ wsL_law := fun _ h => List.mem_append_left _ (List.mem_append_left _ (List.mem_append_left _ (List.mem_append_left _ (List.mem_append_left _ (List.mem_append_left _ (List.mem_append_left _ (List.mem_append_left _ (List.mem_append_left _ (List.mem_append_left _ (List.mem_append_left _ (List.mem_append_left _ (List.mem_append_left _ (List.mem_append_left _ (List.mem_append_right _ h))))))))))))))
theorem inX5 : ∀ w ∈ wsX50, w ∈ lw_tbl := fun w h => wsL_law_in w (inlX5 w h)
theorem inlX6 : ∀ w ∈ wsX60, w ∈ wsL_law := fun _ h => List.mem_append_left _ (List.mem_append_left _ (List.mem_append_left _ (List.mem_append_left _ (List.mem_append_left _ (List.mem_append_left _ (List.mem_append_left _ (List.mem_append_left _ (List.mem_append_left _ (List.mem_append_right _ h)))))))))
theorem inX6 : ∀ w ∈ wsX60, w ∈ lw_tbl := fun w h => wsL_law_in w (inlX6 w h)
theorem inlX7 : ∀ w ∈ wsX70, w ∈ wsL_law := fun _ h => List.mem_append_left _ (List.mem_append_left _ (List.mem_append_left _ (List.mem_append_left _ (List.mem_append_left _ (List.mem_append_right _ h)))))
theorem inX7 : ∀ w ∈ wsX70, w ∈ lw_tbl := fun w h => wsL_law_in w (inlX7 w h)
theorem inlX8 : ∀ w ∈ wsX80, w ∈ wsL_law := fun _ h => List.mem_append_left _ (List.mem_append_left _ (List.mem_append_left _ (List.mem_append_left _ (List.mem_append_left _ (List.mem_append_left _ (List.mem_append_left _ (List.mem_append_left _ (List.mem_append_left _ (List.mem_append_left _ (List.mem_append_left _ (List.mem_append_right _ h)))))))))))
theorem inX8 : ∀ w ∈ wsX80, w ∈ lw_tbl := fun w h => wsL_law_in w (inlX8 w h)
theorem inlX9 : ∀ w ∈ wsX90, w ∈ wsL_law := fun _ h => List.mem_append_left _ (List.mem_append_left _ (List.mem_append_left _ (List.mem_append_left _ (List.mem_append_left _ (List.mem_append_left _ (List.mem_append_right _ h))))))
theorem inX9 : ∀ w ∈ wsX90, w ∈ lw_tbl := fun w h => wsL_law_in w (inlX9 w h)
theorem inlX10 : ∀ w ∈ wsX100, w ∈ wsL_law := fun _ h => List.mem_append_left _ (List.mem_append_left _ (List.mem_append_left _ (List.mem_append_left _ (List.mem_append_left _ (List.mem_append_left _ (List.mem_append_left _ (List.mem_append_left _ (List.mem_append_left _ (List.mem_append_left _ (List.mem_append_right _ h))))))))))
theorem inX10 : ∀ w ∈ wsX100, w ∈ lw_tbl := fun w h => wsL_law_in w (inlX10 w h)
theorem inlX11 : ∀ w ∈ wsX110, w ∈ wsL_law := fun _ h => List.mem_append_left _ (List.mem_append_left _ (List.mem_append_left _ (List.mem_append_left _ (List.mem_append_left _ (List.mem_append_left _ (List.mem_append_left _ (List.mem_append_left _ (List.mem_append_left _ (List.mem_append_left _ (List.mem_append_left _ (List.mem_append_left _ (List.mem_append_left _ (List.mem_append_left _ (List.mem_append_left _ (List.mem_append_left _ (List.mem_append_left _ (List.mem_append_right _ h)))))))))))))))))
theorem inX11 : ∀ w ∈ wsX110, w ∈ lw_tbl := fun w h => wsL_law_in w (inlX11 w h)
theorem inlX12 : ∀ w ∈ wsX120, w ∈ wsL_law := fun _ h => List.mem_append_left _ (List.mem_append_left _ (List.mem_append_left _ (List.mem_append_left _ (List.mem_append_left _ (List.mem_append_left _ (List.mem_append_left _ (List.mem_append_left _ (List.mem_append_left _ (List.mem_append_left _ (List.mem_append_left _ (List.mem_append_left _ (List.mem_append_left _ (List.mem_append_left _ (List.mem_append_left _ (List.mem_append_left _ (List.mem_append_right _ h))))))))))))))))
theorem inX12 : ∀ w ∈ wsX120, w ∈ lw_tbl := fun w h => wsL_law_in w (inlX12 w h)
theorem inlJx00060 : ∀ w ∈ wsJx000600, w ∈ wsL_law := fun _ h => List.mem_append_left _ (List.mem_append_left _ (List.mem_append_left _ (List.mem_append_left _ (List.mem_append_right _ h))))
theorem inJx00060 : ∀ w ∈ wsJx000600, w ∈ lw_tbl := fun w h => wsL_law_in w (inlJx00060 w h)
theorem inJ0 : ∀ w ∈ wsJ00, w ∈ lw_tbl := by decide +kernel
theorem inJ4 : ∀ w ∈ wsJ40, w ∈ lw_tbl := by decide +kernel
theorem dX11_arrange_0 : decode cX11_arrange 0 = .ok (.iload_n 1, 1) := by decide +kernel
theorem dX11_arrange_1 : decode cX11_arrange 1 = .ok (.aload_n 0, 1) := by decide +kernel
theorem dX11_arrange_2 : decode cX11_arrange 2 = .ok (.getfield 16, 3) := by decide +kernel
theorem dX11_arrange_5 : decode cX11_arrange 5 = .ok (.getfield 133, 3) := by decide +kernel
theorem dX11_arrange_8 : decode cX11_arrange 8 = .ok (.aload_n 0, 1) := by decide +kernel
theorem dX11_arrange_9 : decode cX11_arrange 9 = .ok (.getfield 48, 3) := by decide +kernel
theorem dX11_arrange_12 : decode cX11_arrange 12 = .ok (.getfield 221, 3) := by decide +kernel
theorem dX11_arrange_15 : decode cX11_arrange 15 = .ok (.invokestatic 214, 3) := by decide +kernel
theorem dX11_arrange_18 : decode cX11_arrange 18 = .ok (.ifCond .ne 5, 3) := by decide +kernel
theorem dX11_arrange_21 : decode cX11_arrange 21 = .ok (.iconst 0, 1) := by decide +kernel
theorem dX11_arrange_22 : decode cX11_arrange 22 = .ok (.ireturn, 1) := by decide +kernel
theorem dX11_arrange_23 : decode cX11_arrange 23 = .ok (.aload_n 0, 1) := by decide +kernel
theorem dX11_arrange_24 : decode cX11_arrange 24 = .ok (.getfield 48, 3) := by decide +kernel
theorem dX11_arrange_27 : decode cX11_arrange 27 = .ok (.invokevirtual 218, 3) := by decide +kernel
theorem dX11_arrange_30 : decode cX11_arrange 30 = .ok (.aload_n 0, 1) := by decide +kernel
theorem dX11_arrange_31 : decode cX11_arrange 31 = .ok (.bipush (-3), 2) := by decide +kernel
theorem dX11_arrange_33 : decode cX11_arrange 33 = .ok (.putfield 104, 3) := by decide +kernel
theorem dX11_arrange_36 : decode cX11_arrange 36 = .ok (.aload_n 0, 1) := by decide +kernel
theorem dX11_arrange_37 : decode cX11_arrange 37 = .ok (.invokevirtual 154, 3) := by decide +kernel
theorem dX11_arrange_40 : decode cX11_arrange 40 = .ok (.iconst 1, 1) := by decide +kernel
theorem dX11_arrange_41 : decode cX11_arrange 41 = .ok (.ireturn, 1) := by decide +kernel
theorem dX11_readTurns_11 : decode cX11_readTurns 11 = .ok (.iload_n 3, 1) := by decide +kernel
theorem dX11_readTurns_12 : decode cX11_readTurns 12 = .ok (.iconst 1, 1) := by decide +kernel
theorem dX11_readTurns_13 : decode cX11_readTurns 13 = .ok (.iload_n 0, 1) := by decide +kernel
theorem dX11_readTurns_14 : decode cX11_readTurns 14 = .ok (.iconst 2, 1) := by decide +kernel
theorem dX11_readTurns_15 : decode cX11_readTurns 15 = .ok (.iload 4, 2) := by decide +kernel
theorem dX11_readTurns_17 : decode cX11_readTurns 17 = .ok (.imul, 1) := by decide +kernel
theorem dX11_readTurns_18 : decode cX11_readTurns 18 = .ok (.iushr, 1) := by decide +kernel
theorem dX11_readTurns_19 : decode cX11_readTurns 19 = .ok (.iconst 3, 1) := by decide +kernel
theorem dX11_readTurns_20 : decode cX11_readTurns 20 = .ok (.iand, 1) := by decide +kernel
theorem dX11_readTurns_21 : decode cX11_readTurns 21 = .ok (.ishl, 1) := by decide +kernel
theorem dX11_readTurns_22 : decode cX11_readTurns 22 = .ok (.ior, 1) := by decide +kernel
theorem dX11_readTurns_23 : decode cX11_readTurns 23 = .ok (.istore_n 3, 1) := by decide +kernel
theorem dX11_readTurns_24 : decode cX11_readTurns 24 = .ok (.iinc 4 1, 3) := by decide +kernel
theorem dX11_readTurns_27 : decode cX11_readTurns 27 = .ok (.goto (-22), 3) := by decide +kernel
theorem dX11_readTurns_39 : decode cX11_readTurns 39 = .ok (.iconst 0, 1) := by decide +kernel
theorem dX11_readTurns_40 : decode cX11_readTurns 40 = .ok (.ireturn, 1) := by decide +kernel
theorem dX11_readTurns_50 : decode cX11_readTurns 50 = .ok (.iload 4, 2) := by decide +kernel
theorem dX11_readTurns_52 : decode cX11_readTurns 52 = .ok (.aload_n 2, 1) := by decide +kernel
theorem dX11_readTurns_53 : decode cX11_readTurns 53 = .ok (.arraylength, 1) := by decide +kernel
theorem dX11_readTurns_54 : decode cX11_readTurns 54 = .ok (.if_icmp .ge 21, 3) := by decide +kernel
theorem dX11_readTurns_57 : decode cX11_readTurns 57 = .ok (.aload_n 2, 1) := by decide +kernel
theorem dX11_readTurns_58 : decode cX11_readTurns 58 = .ok (.iload 4, 2) := by decide +kernel
theorem dX11_readTurns_60 : decode cX11_readTurns 60 = .ok (.iload_n 0, 1) := by decide +kernel
theorem dX11_readTurns_61 : decode cX11_readTurns 61 = .ok (.iconst 2, 1) := by decide +kernel
theorem dX11_readTurns_62 : decode cX11_readTurns 62 = .ok (.iload 4, 2) := by decide +kernel
theorem dX11_readTurns_64 : decode cX11_readTurns 64 = .ok (.imul, 1) := by decide +kernel
theorem dX11_readTurns_65 : decode cX11_readTurns 65 = .ok (.iushr, 1) := by decide +kernel
theorem dX11_readTurns_66 : decode cX11_readTurns 66 = .ok (.iconst 3, 1) := by decide +kernel
theorem dX11_readTurns_67 : decode cX11_readTurns 67 = .ok (.iand, 1) := by decide +kernel
theorem dX11_readTurns_68 : decode cX11_readTurns 68 = .ok (.iastore, 1) := by decide +kernel
theorem dX11_readTurns_69 : decode cX11_readTurns 69 = .ok (.iinc 4 1, 3) := by decide +kernel
theorem dX11_readTurns_72 : decode cX11_readTurns 72 = .ok (.goto (-28), 3) := by decide +kernel
theorem dX11_numberAfter_0 : decode cX11_numberAfter 0 = .ok (.iload_n 0, 1) := by decide +kernel
theorem dX11_numberAfter_1 : decode cX11_numberAfter 1 = .ok (.ldc_w 443, 3) := by decide +kernel
theorem dX11_numberAfter_4 : decode cX11_numberAfter 4 = .ok (.imul, 1) := by decide +kernel
theorem dX11_numberAfter_5 : decode cX11_numberAfter 5 = .ok (.sipush 12345, 3) := by decide +kernel
theorem dX11_numberAfter_8 : decode cX11_numberAfter 8 = .ok (.iadd, 1) := by decide +kernel
theorem dX11_numberAfter_9 : decode cX11_numberAfter 9 = .ok (.ldc_w 446, 3) := by decide +kernel
theorem dX11_numberAfter_12 : decode cX11_numberAfter 12 = .ok (.iand, 1) := by decide +kernel
theorem dX11_numberAfter_13 : decode cX11_numberAfter 13 = .ok (.ireturn, 1) := by decide +kernel
theorem dX11_evenly_21 : decode cX11_evenly 21 = .ok (.iload_n 3, 1) := by decide +kernel
theorem dX11_evenly_22 : decode cX11_evenly 22 = .ok (.ifCond .gt 5, 3) := by decide +kernel
theorem dX11_evenly_27 : decode cX11_evenly 27 = .ok (.ldc2_w 447, 3) := by decide +kernel
theorem dX11_evenly_30 : decode cX11_evenly 30 = .ok (.lstore 4, 2) := by decide +kernel
theorem dX11_evenly_32 : decode cX11_evenly 32 = .ok (.lload 4, 2) := by decide +kernel
theorem dX11_evenly_34 : decode cX11_evenly 34 = .ok (.lload 4, 2) := by decide +kernel
theorem dX11_evenly_36 : decode cX11_evenly 36 = .ok (.iload_n 3, 1) := by decide +kernel
theorem dX11_evenly_37 : decode cX11_evenly 37 = .ok (.i2l, 1) := by decide +kernel
theorem dX11_evenly_38 : decode cX11_evenly 38 = .ok (.lrem, 1) := by decide +kernel
theorem dX11_evenly_39 : decode cX11_evenly 39 = .ok (.lsub, 1) := by decide +kernel
theorem dX11_evenly_40 : decode cX11_evenly 40 = .ok (.lstore 6, 2) := by decide +kernel
theorem dX11_evenly_42 : decode cX11_evenly 42 = .ok (.iload_n 1, 1) := by decide +kernel
theorem dX11_evenly_43 : decode cX11_evenly 43 = .ok (.invokestatic 437, 3) := by decide +kernel
theorem dX11_evenly_46 : decode cX11_evenly 46 = .ok (.istore 8, 2) := by decide +kernel
theorem dX11_evenly_48 : decode cX11_evenly 48 = .ok (.iconst 1, 1) := by decide +kernel
theorem dX11_evenly_49 : decode cX11_evenly 49 = .ok (.istore 9, 2) := by decide +kernel
theorem dX11_evenly_51 : decode cX11_evenly 51 = .ok (.iconst 0, 1) := by decide +kernel
theorem dX11_evenly_52 : decode cX11_evenly 52 = .ok (.istore 10, 2) := by decide +kernel
theorem dX11_evenly_54 : decode cX11_evenly 54 = .ok (.iload 10, 2) := by decide +kernel
theorem dX11_evenly_56 : decode cX11_evenly 56 = .ok (.ldc_w 449, 3) := by decide +kernel
theorem dX11_evenly_59 : decode cX11_evenly 59 = .ok (.if_icmp .ge 28, 3) := by decide +kernel
theorem dX11_evenly_62 : decode cX11_evenly 62 = .ok (.iload 8, 2) := by decide +kernel
theorem dX11_evenly_64 : decode cX11_evenly 64 = .ok (.i2l, 1) := by decide +kernel
theorem dX11_evenly_65 : decode cX11_evenly 65 = .ok (.lload 6, 2) := by decide +kernel
theorem dX11_evenly_67 : decode cX11_evenly 67 = .ok (.lcmp, 1) := by decide +kernel
theorem dX11_evenly_68 : decode cX11_evenly 68 = .ok (.ifCond .lt 19, 3) := by decide +kernel
theorem dX11_evenly_87 : decode cX11_evenly 87 = .ok (.iload_n 2, 1) := by decide +kernel
theorem dX11_evenly_88 : decode cX11_evenly 88 = .ok (.ifCond .ne 8, 3) := by decide +kernel
theorem dX11_evenly_91 : decode cX11_evenly 91 = .ok (.iload 8, 2) := by decide +kernel
theorem dX11_evenly_93 : decode cX11_evenly 93 = .ok (.iload_n 3, 1) := by decide +kernel
theorem dX11_evenly_94 : decode cX11_evenly 94 = .ok (.irem, 1) := by decide +kernel
theorem dX11_evenly_95 : decode cX11_evenly 95 = .ok (.ireturn, 1) := by decide +kernel
theorem dX11_evenly_96 : decode cX11_evenly 96 = .ok (.iload_n 2, 1) := by decide +kernel
theorem dX11_evenly_97 : decode cX11_evenly 97 = .ok (.iconst 1, 1) := by decide +kernel
theorem dX11_evenly_98 : decode cX11_evenly 98 = .ok (.if_icmp .ne 8, 3) := by decide +kernel
theorem dX11_evenly_101 : decode cX11_evenly 101 = .ok (.iload 9, 2) := by decide +kernel
theorem dX11_evenly_103 : decode cX11_evenly 103 = .ok (.goto 5, 3) := by decide +kernel
theorem dX11_evenly_106 : decode cX11_evenly 106 = .ok (.iload 8, 2) := by decide +kernel
theorem dX11_evenly_108 : decode cX11_evenly 108 = .ok (.ireturn, 1) := by decide +kernel
theorem dX11_look_0 : decode cX11_look 0 = .ok (.aload_n 0, 1) := by decide +kernel
theorem dX11_look_1 : decode cX11_look 1 = .ok (.iload_n 1, 1) := by decide +kernel
theorem dX11_look_2 : decode cX11_look 2 = .ok (.invokevirtual 186, 3) := by decide +kernel
theorem dX11_look_5 : decode cX11_look 5 = .ok (.ifCond .ne 14, 3) := by decide +kernel
theorem dX11_look_8 : decode cX11_look 8 = .ok (.new 450, 3) := by decide +kernel
theorem dX11_look_11 : decode cX11_look 11 = .ok (.dup, 1) := by decide +kernel
theorem dX11_look_12 : decode cX11_look 12 = .ok (.ldc_w 452, 3) := by decide +kernel
theorem dX11_look_15 : decode cX11_look 15 = .ok (.invokespecial 454, 3) := by decide +kernel
theorem dX11_look_18 : decode cX11_look 18 = .ok (.athrow, 1) := by decide +kernel
theorem dX12_thrown_0 : decode cX12_thrown 0 = .ok (.aload_n 0, 1) := by decide +kernel
theorem dX12_thrown_1 : decode cX12_thrown 1 = .ok (.getfield 132, 3) := by decide +kernel
theorem dX12_thrown_4 : decode cX12_thrown 4 = .ok (.ireturn, 1) := by decide +kernel
theorem dX12_arrange_0 : decode cX12_arrange 0 = .ok (.aload_n 0, 1) := by decide +kernel
theorem dX12_arrange_1 : decode cX12_arrange 1 = .ok (.iconst 0, 1) := by decide +kernel
theorem dX12_arrange_2 : decode cX12_arrange 2 = .ok (.putfield 132, 3) := by decide +kernel
theorem dX12_arrange_5 : decode cX12_arrange 5 = .ok (.iload_n 1, 1) := by decide +kernel
theorem dX12_arrange_6 : decode cX12_arrange 6 = .ok (.aload_n 0, 1) := by decide +kernel
theorem dX12_arrange_7 : decode cX12_arrange 7 = .ok (.getfield 185, 3) := by decide +kernel
theorem dX12_arrange_10 : decode cX12_arrange 10 = .ok (.invokestatic 272, 3) := by decide +kernel
theorem dX12_arrange_13 : decode cX12_arrange 13 = .ok (.ifCond .ne 5, 3) := by decide +kernel
theorem dX12_arrange_16 : decode cX12_arrange 16 = .ok (.iconst 0, 1) := by decide +kernel
theorem dX12_arrange_17 : decode cX12_arrange 17 = .ok (.ireturn, 1) := by decide +kernel
theorem dX12_arrange_18 : decode cX12_arrange 18 = .ok (.iconst 0, 1) := by decide +kernel
theorem dX12_arrange_19 : decode cX12_arrange 19 = .ok (.istore_n 2, 1) := by decide +kernel
theorem dX12_arrange_20 : decode cX12_arrange 20 = .ok (.iload_n 2, 1) := by decide +kernel
theorem dX12_arrange_21 : decode cX12_arrange 21 = .ok (.aload_n 0, 1) := by decide +kernel
theorem dX12_arrange_22 : decode cX12_arrange 22 = .ok (.getfield 185, 3) := by decide +kernel
theorem dX12_arrange_25 : decode cX12_arrange 25 = .ok (.if_icmp .ge 22, 3) := by decide +kernel
theorem dX12_arrange_28 : decode cX12_arrange 28 = .ok (.aload_n 0, 1) := by decide +kernel
theorem dX12_arrange_29 : decode cX12_arrange 29 = .ok (.getfield 62, 3) := by decide +kernel
theorem dX12_arrange_32 : decode cX12_arrange 32 = .ok (.iload_n 2, 1) := by decide +kernel
theorem dX12_arrange_33 : decode cX12_arrange 33 = .ok (.iload_n 1, 1) := by decide +kernel
theorem dX12_arrange_34 : decode cX12_arrange 34 = .ok (.iconst 2, 1) := by decide +kernel
theorem dX12_arrange_35 : decode cX12_arrange 35 = .ok (.iload_n 2, 1) := by decide +kernel
theorem dX12_arrange_36 : decode cX12_arrange 36 = .ok (.imul, 1) := by decide +kernel
theorem dX12_arrange_37 : decode cX12_arrange 37 = .ok (.ishr, 1) := by decide +kernel
theorem dX12_arrange_38 : decode cX12_arrange 38 = .ok (.iconst 3, 1) := by decide +kernel
theorem dX12_arrange_39 : decode cX12_arrange 39 = .ok (.iand, 1) := by decide +kernel
theorem dX12_arrange_40 : decode cX12_arrange 40 = .ok (.iastore, 1) := by decide +kernel
theorem dX12_arrange_41 : decode cX12_arrange 41 = .ok (.iinc 2 1, 3) := by decide +kernel
theorem dX12_arrange_44 : decode cX12_arrange 44 = .ok (.goto (-24), 3) := by decide +kernel
theorem dX12_arrange_47 : decode cX12_arrange 47 = .ok (.aload_n 0, 1) := by decide +kernel
theorem dX12_arrange_48 : decode cX12_arrange 48 = .ok (.iconst 0, 1) := by decide +kernel
theorem dX12_arrange_49 : decode cX12_arrange 49 = .ok (.putfield 234, 3) := by decide +kernel
theorem dX12_arrange_52 : decode cX12_arrange 52 = .ok (.aload_n 0, 1) := by decide +kernel
theorem dX12_arrange_53 : decode cX12_arrange 53 = .ok (.iconst (-1), 1) := by decide +kernel
theorem dX12_arrange_54 : decode cX12_arrange 54 = .ok (.putfield 102, 3) := by decide +kernel
theorem dX12_arrange_57 : decode cX12_arrange 57 = .ok (.iconst 1, 1) := by decide +kernel
theorem dX12_arrange_58 : decode cX12_arrange 58 = .ok (.ireturn, 1) := by decide +kernel
theorem dX12_comesNext_0 : decode cX12_comesNext 0 = .ok (.lload_n 0, 1) := by decide +kernel
theorem dX12_comesNext_1 : decode cX12_comesNext 1 = .ok (.ldc2_w 396, 3) := by decide +kernel
theorem dX12_comesNext_4 : decode cX12_comesNext 4 = .ok (.lmul, 1) := by decide +kernel
theorem dX12_comesNext_5 : decode cX12_comesNext 5 = .ok (.ldc2_w 398, 3) := by decide +kernel
theorem dX12_comesNext_8 : decode cX12_comesNext 8 = .ok (.ladd, 1) := by decide +kernel
theorem dX12_comesNext_9 : decode cX12_comesNext 9 = .ok (.ldc2_w 400, 3) := by decide +kernel
theorem dX12_comesNext_12 : decode cX12_comesNext 12 = .ok (.land, 1) := by decide +kernel
theorem dX12_comesNext_13 : decode cX12_comesNext 13 = .ok (.lreturn, 1) := by decide +kernel
theorem dX12_evenly_18 : decode cX12_evenly 18 = .ok (.aload_n 0, 1) := by decide +kernel
theorem dX12_evenly_19 : decode cX12_evenly 19 = .ok (.getfield 251, 3) := by decide +kernel
theorem dX12_evenly_22 : decode cX12_evenly 22 = .ok (.ifCond .ne 5, 3) := by decide +kernel
theorem dX12_evenly_27 : decode cX12_evenly 27 = .ok (.ldc2_w 408, 3) := by decide +kernel
theorem dX12_evenly_30 : decode cX12_evenly 30 = .ok (.ldc2_w 408, 3) := by decide +kernel
theorem dX12_evenly_33 : decode cX12_evenly 33 = .ok (.aload_n 0, 1) := by decide +kernel
theorem dX12_evenly_34 : decode cX12_evenly 34 = .ok (.getfield 251, 3) := by decide +kernel
theorem dX12_evenly_37 : decode cX12_evenly 37 = .ok (.i2l, 1) := by decide +kernel
theorem dX12_evenly_38 : decode cX12_evenly 38 = .ok (.lrem, 1) := by decide +kernel
theorem dX12_evenly_39 : decode cX12_evenly 39 = .ok (.lsub, 1) := by decide +kernel
theorem dX12_evenly_40 : decode cX12_evenly 40 = .ok (.lstore_n 3, 1) := by decide +kernel
theorem dX12_evenly_41 : decode cX12_evenly 41 = .ok (.iload_n 1, 1) := by decide +kernel
theorem dX12_evenly_42 : decode cX12_evenly 42 = .ok (.i2l, 1) := by decide +kernel
theorem dX12_evenly_43 : decode cX12_evenly 43 = .ok (.invokestatic 402, 3) := by decide +kernel
theorem dX12_evenly_46 : decode cX12_evenly 46 = .ok (.lstore 5, 2) := by decide +kernel
theorem dX12_evenly_48 : decode cX12_evenly 48 = .ok (.iconst 1, 1) := by decide +kernel
theorem dX12_evenly_49 : decode cX12_evenly 49 = .ok (.istore 7, 2) := by decide +kernel
theorem dX12_evenly_51 : decode cX12_evenly 51 = .ok (.lload 5, 2) := by decide +kernel
theorem dX12_evenly_53 : decode cX12_evenly 53 = .ok (.lload_n 3, 1) := by decide +kernel
theorem dX12_evenly_54 : decode cX12_evenly 54 = .ok (.lcmp, 1) := by decide +kernel
theorem dX12_evenly_55 : decode cX12_evenly 55 = .ok (.ifCond .lt 16, 3) := by decide +kernel
theorem dX12_evenly_71 : decode cX12_evenly 71 = .ok (.iload_n 2, 1) := by decide +kernel
theorem dX12_evenly_72 : decode cX12_evenly 72 = .ok (.ifCond .ne 15, 3) := by decide +kernel
theorem dX12_evenly_75 : decode cX12_evenly 75 = .ok (.lload 5, 2) := by decide +kernel
theorem dX12_evenly_77 : decode cX12_evenly 77 = .ok (.aload_n 0, 1) := by decide +kernel
theorem dX12_evenly_78 : decode cX12_evenly 78 = .ok (.getfield 251, 3) := by decide +kernel
theorem dX12_evenly_81 : decode cX12_evenly 81 = .ok (.i2l, 1) := by decide +kernel
theorem dX12_evenly_82 : decode cX12_evenly 82 = .ok (.lrem, 1) := by decide +kernel
theorem dX12_evenly_83 : decode cX12_evenly 83 = .ok (.l2i, 1) := by decide +kernel
theorem dX12_evenly_84 : decode cX12_evenly 84 = .ok (.goto 16, 3) := by decide +kernel
theorem dX12_evenly_87 : decode cX12_evenly 87 = .ok (.iload_n 2, 1) := by decide +kernel
theorem dX12_evenly_88 : decode cX12_evenly 88 = .ok (.iconst 1, 1) := by decide +kernel
theorem dX12_evenly_89 : decode cX12_evenly 89 = .ok (.if_icmp .ne 8, 3) := by decide +kernel
theorem dX12_evenly_92 : decode cX12_evenly 92 = .ok (.iload 7, 2) := by decide +kernel
theorem dX12_evenly_94 : decode cX12_evenly 94 = .ok (.goto 6, 3) := by decide +kernel
theorem dX12_evenly_97 : decode cX12_evenly 97 = .ok (.lload 5, 2) := by decide +kernel
theorem dX12_evenly_99 : decode cX12_evenly 99 = .ok (.l2i, 1) := by decide +kernel
theorem dX12_evenly_100 : decode cX12_evenly 100 = .ok (.ireturn, 1) := by decide +kernel
theorem dX12_fails_0 : decode cX12_fails 0 = .ok (.aload_n 0, 1) := by decide +kernel
theorem dX12_fails_1 : decode cX12_fails 1 = .ok (.iload_n 1, 1) := by decide +kernel
theorem dX12_fails_2 : decode cX12_fails 2 = .ok (.putfield 132, 3) := by decide +kernel
theorem dX12_fails_5 : decode cX12_fails 5 = .ok (.iconst 0, 1) := by decide +kernel
theorem dX12_fails_6 : decode cX12_fails 6 = .ok (.ireturn, 1) := by decide +kernel
theorem dX12_look_0 : decode cX12_look 0 = .ok (.aload_n 0, 1) := by decide +kernel
theorem dX12_look_1 : decode cX12_look 1 = .ok (.iconst 0, 1) := by decide +kernel
theorem dX12_look_2 : decode cX12_look 2 = .ok (.putfield 132, 3) := by decide +kernel
theorem dX12_look_5 : decode cX12_look 5 = .ok (.aload_n 0, 1) := by decide +kernel
theorem dX12_look_6 : decode cX12_look 6 = .ok (.iload_n 1, 1) := by decide +kernel
theorem dX12_look_7 : decode cX12_look 7 = .ok (.invokevirtual 269, 3) := by decide +kernel
theorem dX12_look_10 : decode cX12_look 10 = .ok (.ifCond .ne 9, 3) := by decide +kernel
theorem dX12_look_13 : decode cX12_look 13 = .ok (.aload_n 0, 1) := by decide +kernel
theorem dX12_look_14 : decode cX12_look 14 = .ok (.iconst 1, 1) := by decide +kernel
theorem dX12_look_15 : decode cX12_look 15 = .ok (.invokevirtual 410, 3) := by decide +kernel
theorem dX12_look_18 : decode cX12_look 18 = .ok (.ireturn, 1) := by decide +kernel
set_option maxRecDepth 20000 in
theorem ggL_look_X11_look : GoodIn wsL_look wsX11_look := goodIn_ca (goodIn_ca (goodIn_ca (goodIn_r _ [7, 8, 9, 10, 11, 12, 13, 14, 15, 6, 16, 17, 18, 19, 20, 21, 22, 23, 24, 25, 26, 27, 28, 29, 30, 31, 32, 33, 34, 35, 36, 37, 38, 39, 40, 41, 42, 43, 44, 45, 46, 47, 48, 49, 50, 51] (by decide +kernel) (by decide +kernel)) (goodIn_sub (fun _ h => List.mem_cons_of_mem _ (List.mem_append_left _ (List.mem_append_right _ h))) (by decide +kernel))) (goodIn_sub (fun _ h => List.mem_cons_of_mem _ (List.mem_append_right _ h)) (by decide +kernel))) (goodIn_sub (fun _ h => List.mem_cons_of_mem _ (List.mem_append_left _ (List.mem_append_left _ (List.mem_append_right _ h)))) (by decide +kernel))
set_option maxRecDepth 20000 in
theorem gL_look_X11_look : GoodIn wsL_look (wsV RL 7 RX11 yX11_look wsX11_look) := goodIn_app (goodIn_of _ (by decide +kernel)) ggL_look_X11_look
theorem dL_look_0 : decode cL_look 0 = .ok (.aload_n 3, 1) := by decide +kernel
theorem dL_look_1 : decode cL_look 1 = .ok (.iconst 0, 1) := by decide +kernel
theorem dL_look_2 : decode cL_look 2 = .ok (.aload_n 0, 1) := by decide +kernel
theorem dL_look_3 : decode cL_look 3 = .ok (.iload_n 1, 1) := by decide +kernel
theorem dL_look_4 : decode cL_look 4 = .ok (.iload_n 2, 1) := by decide +kernel
theorem dL_look_5 : decode cL_look 5 = .ok (.invokevirtual 7, 3) := by decide +kernel
theorem dL_look_13 : decode cL_look 13 = .ok (.astore 4, 2) := by decide +kernel
theorem dL_look_15 : decode cL_look 15 = .ok (.iconst 1, 1) := by decide +kernel
theorem dL_look_16 : decode cL_look 16 = .ok (.ireturn, 1) := by decide +kernel
set_option maxRecDepth 20000 in
theorem ggL_law_L_look : GoodIn wsL_law wsL_look := goodIn_ca (goodIn_ca (goodIn_ca (goodIn_r _ [1395, 1396, 1397, 1398, 1399, 1400, 2, 1401, 1402, 1403, 1404, 1405, 18, 657, 658, 659, 660, 712, 666, 667, 17, 668, 70, 1426, 1427, 1428, 1429, 1430, 1431, 1432, 1433, 1434, 1435, 1436, 1437, 1438, 1439, 1440, 1441, 1442, 1443, 1510, 1511, 1512, 1513, 1514, 1515, 1516, 1517, 1518, 1519, 1520] (by decide +kernel) (by decide +kernel)) (goodIn_sub (fun _ h => List.mem_append_left _ (List.mem_append_left _ (List.mem_append_right _ h))) (by decide +kernel))) (goodIn_sub (fun _ h => List.mem_append_left _ (List.mem_append_right _ h)) (by decide +kernel))) (goodIn_sub (fun _ h => List.mem_append_right _ h) (by decide +kernel))
set_option maxRecDepth 20000 in
theorem gL_law_L_look : GoodIn wsL_law (va_wsS RL 152 yL_look wsL_look) := goodIn_app (goodIn_of _ (by decide +kernel)) ggL_law_L_look
theorem dL_law_0 : decode cL_law 0 = .ok (.new 8, 3) := by decide +kernel
theorem dL_law_3 : decode cL_law 3 = .ok (.dup, 1) := by decide +kernel
theorem dL_law_4 : decode cL_law 4 = .ok (.invokespecial 17, 3) := by decide +kernel
theorem dL_law_7 : decode cL_law 7 = .ok (.astore_n 1, 1) := by decide +kernel
theorem dL_law_8 : decode cL_law 8 = .ok (.new 18, 3) := by decide +kernel
theorem dL_law_11 : decode cL_law 11 = .ok (.dup, 1) := by decide +kernel
theorem dL_law_12 : decode cL_law 12 = .ok (.invokespecial 20, 3) := by decide +kernel
theorem dL_law_15 : decode cL_law 15 = .ok (.astore_n 2, 1) := by decide +kernel
theorem dL_law_16 : decode cL_law 16 = .ok (.iconst 1, 1) := by decide +kernel
theorem dL_law_17 : decode cL_law 17 = .ok (.newarray .long, 2) := by decide +kernel
theorem dL_law_19 : decode cL_law 19 = .ok (.astore_n 3, 1) := by decide +kernel
theorem dL_law_20 : decode cL_law 20 = .ok (.iconst 0, 1) := by decide +kernel
theorem dL_law_21 : decode cL_law 21 = .ok (.istore 4, 2) := by decide +kernel
theorem dL_law_23 : decode cL_law 23 = .ok (.iload 4, 2) := by decide +kernel
theorem dL_law_25 : decode cL_law 25 = .ok (.aload_n 0, 1) := by decide +kernel
theorem dL_law_26 : decode cL_law 26 = .ok (.arraylength, 1) := by decide +kernel
theorem dL_law_27 : decode cL_law 27 = .ok (.bipush 6, 2) := by decide +kernel
theorem dL_law_29 : decode cL_law 29 = .ok (.isub, 1) := by decide +kernel
theorem dL_law_30 : decode cL_law 30 = .ok (.if_icmp .gt 1206, 3) := by decide +kernel
theorem dL_law_33 : decode cL_law 33 = .ok (.aload_n 0, 1) := by decide +kernel
theorem dL_law_34 : decode cL_law 34 = .ok (.iload 4, 2) := by decide +kernel
theorem dL_law_36 : decode cL_law 36 = .ok (.iaload, 1) := by decide +kernel
theorem dL_law_37 : decode cL_law 37 = .ok (.bipush 63, 2) := by decide +kernel
theorem dL_law_39 : decode cL_law 39 = .ok (.iand, 1) := by decide +kernel
theorem dL_law_40 : decode cL_law 40 = .ok (.tableswitch 1190 0 32 #[148, 221, 246, 271, 308, 321, 346, 359, 396, 421, 446, 471, 496, 509, 534, 559, 572, 597, 622, 672, 722, 748, 798, 823, 848, 898, 923, 948, 985, 1023, 1060, 1097, 1165], 148) := by decide +kernel
theorem dL_law_188 : decode cL_law 188 = .ok (.aload_n 1, 1) := by decide +kernel
theorem dL_law_189 : decode cL_law 189 = .ok (.aload_n 0, 1) := by decide +kernel
theorem dL_law_190 : decode cL_law 190 = .ok (.iload 4, 2) := by decide +kernel
theorem dL_law_192 : decode cL_law 192 = .ok (.iconst 1, 1) := by decide +kernel
theorem dL_law_193 : decode cL_law 193 = .ok (.iadd, 1) := by decide +kernel
theorem dL_law_194 : decode cL_law 194 = .ok (.iaload, 1) := by decide +kernel
theorem dL_law_195 : decode cL_law 195 = .ok (.aload_n 0, 1) := by decide +kernel
theorem dL_law_196 : decode cL_law 196 = .ok (.iload 4, 2) := by decide +kernel
theorem dL_law_198 : decode cL_law 198 = .ok (.iconst 2, 1) := by decide +kernel
theorem dL_law_199 : decode cL_law 199 = .ok (.iadd, 1) := by decide +kernel
theorem dL_law_200 : decode cL_law 200 = .ok (.iaload, 1) := by decide +kernel
theorem dL_law_201 : decode cL_law 201 = .ok (.aload_n 0, 1) := by decide +kernel
theorem dL_law_202 : decode cL_law 202 = .ok (.iload 4, 2) := by decide +kernel
theorem dL_law_204 : decode cL_law 204 = .ok (.iconst 3, 1) := by decide +kernel
theorem dL_law_205 : decode cL_law 205 = .ok (.iadd, 1) := by decide +kernel
theorem dL_law_206 : decode cL_law 206 = .ok (.iaload, 1) := by decide +kernel
theorem dL_law_207 : decode cL_law 207 = .ok (.aload_n 0, 1) := by decide +kernel
theorem dL_law_208 : decode cL_law 208 = .ok (.iload 4, 2) := by decide +kernel
theorem dL_law_210 : decode cL_law 210 = .ok (.iconst 4, 1) := by decide +kernel
theorem dL_law_211 : decode cL_law 211 = .ok (.iadd, 1) := by decide +kernel
theorem dL_law_212 : decode cL_law 212 = .ok (.iaload, 1) := by decide +kernel
theorem dL_law_213 : decode cL_law 213 = .ok (.aload_n 0, 1) := by decide +kernel
theorem dL_law_214 : decode cL_law 214 = .ok (.iload 4, 2) := by decide +kernel
theorem dL_law_216 : decode cL_law 216 = .ok (.iconst 5, 1) := by decide +kernel
theorem dL_law_217 : decode cL_law 217 = .ok (.iadd, 1) := by decide +kernel
theorem dL_law_218 : decode cL_law 218 = .ok (.iaload, 1) := by decide +kernel
theorem dL_law_219 : decode cL_law 219 = .ok (.invokevirtual 21, 3) := by decide +kernel
theorem dL_law_222 : decode cL_law 222 = .ok (.aload_n 2, 1) := by decide +kernel
theorem dL_law_223 : decode cL_law 223 = .ok (.aload_n 0, 1) := by decide +kernel
theorem dL_law_224 : decode cL_law 224 = .ok (.iload 4, 2) := by decide +kernel
theorem dL_law_226 : decode cL_law 226 = .ok (.iconst 1, 1) := by decide +kernel
theorem dL_law_227 : decode cL_law 227 = .ok (.iadd, 1) := by decide +kernel
theorem dL_law_228 : decode cL_law 228 = .ok (.iaload, 1) := by decide +kernel
theorem dL_law_229 : decode cL_law 229 = .ok (.aload_n 0, 1) := by decide +kernel
theorem dL_law_230 : decode cL_law 230 = .ok (.iload 4, 2) := by decide +kernel
theorem dL_law_232 : decode cL_law 232 = .ok (.iconst 2, 1) := by decide +kernel
theorem dL_law_233 : decode cL_law 233 = .ok (.iadd, 1) := by decide +kernel
theorem dL_law_234 : decode cL_law 234 = .ok (.iaload, 1) := by decide +kernel
theorem dL_law_235 : decode cL_law 235 = .ok (.aload_n 0, 1) := by decide +kernel
theorem dL_law_236 : decode cL_law 236 = .ok (.iload 4, 2) := by decide +kernel
theorem dL_law_238 : decode cL_law 238 = .ok (.iconst 3, 1) := by decide +kernel
theorem dL_law_239 : decode cL_law 239 = .ok (.iadd, 1) := by decide +kernel
theorem dL_law_240 : decode cL_law 240 = .ok (.iaload, 1) := by decide +kernel
theorem dL_law_241 : decode cL_law 241 = .ok (.aload_n 0, 1) := by decide +kernel
theorem dL_law_242 : decode cL_law 242 = .ok (.iload 4, 2) := by decide +kernel
theorem dL_law_244 : decode cL_law 244 = .ok (.iconst 4, 1) := by decide +kernel
theorem dL_law_245 : decode cL_law 245 = .ok (.iadd, 1) := by decide +kernel
theorem dL_law_246 : decode cL_law 246 = .ok (.iaload, 1) := by decide +kernel
theorem dL_law_247 : decode cL_law 247 = .ok (.aload_n 0, 1) := by decide +kernel
theorem dL_law_248 : decode cL_law 248 = .ok (.iload 4, 2) := by decide +kernel
theorem dL_law_250 : decode cL_law 250 = .ok (.iconst 5, 1) := by decide +kernel
theorem dL_law_251 : decode cL_law 251 = .ok (.iadd, 1) := by decide +kernel
theorem dL_law_252 : decode cL_law 252 = .ok (.iaload, 1) := by decide +kernel
theorem dL_law_253 : decode cL_law 253 = .ok (.invokevirtual 25, 3) := by decide +kernel
theorem dL_law_256 : decode cL_law 256 = .ok (.if_icmp .eq 974, 3) := by decide +kernel
theorem dL_law_261 : decode cL_law 261 = .ok (.aload_n 1, 1) := by decide +kernel
theorem dL_law_262 : decode cL_law 262 = .ok (.aload_n 0, 1) := by decide +kernel
theorem dL_law_263 : decode cL_law 263 = .ok (.iload 4, 2) := by decide +kernel
theorem dL_law_265 : decode cL_law 265 = .ok (.iconst 1, 1) := by decide +kernel
theorem dL_law_266 : decode cL_law 266 = .ok (.iadd, 1) := by decide +kernel
theorem dL_law_267 : decode cL_law 267 = .ok (.iaload, 1) := by decide +kernel
theorem dL_law_268 : decode cL_law 268 = .ok (.invokevirtual 26, 3) := by decide +kernel
theorem dL_law_271 : decode cL_law 271 = .ok (.aload_n 2, 1) := by decide +kernel
theorem dL_law_272 : decode cL_law 272 = .ok (.aload_n 0, 1) := by decide +kernel
theorem dL_law_273 : decode cL_law 273 = .ok (.iload 4, 2) := by decide +kernel
theorem dL_law_275 : decode cL_law 275 = .ok (.iconst 1, 1) := by decide +kernel
theorem dL_law_276 : decode cL_law 276 = .ok (.iadd, 1) := by decide +kernel
theorem dL_law_277 : decode cL_law 277 = .ok (.iaload, 1) := by decide +kernel
theorem dL_law_278 : decode cL_law 278 = .ok (.invokevirtual 30, 3) := by decide +kernel
theorem dL_law_281 : decode cL_law 281 = .ok (.if_icmp .eq 949, 3) := by decide +kernel
theorem dL_law_286 : decode cL_law 286 = .ok (.aload_n 1, 1) := by decide +kernel
theorem dL_law_287 : decode cL_law 287 = .ok (.aload_n 0, 1) := by decide +kernel
theorem dL_law_288 : decode cL_law 288 = .ok (.iload 4, 2) := by decide +kernel
theorem dL_law_290 : decode cL_law 290 = .ok (.iconst 1, 1) := by decide +kernel
theorem dL_law_291 : decode cL_law 291 = .ok (.iadd, 1) := by decide +kernel
theorem dL_law_292 : decode cL_law 292 = .ok (.iaload, 1) := by decide +kernel
theorem dL_law_293 : decode cL_law 293 = .ok (.invokevirtual 31, 3) := by decide +kernel
theorem dL_law_296 : decode cL_law 296 = .ok (.aload_n 2, 1) := by decide +kernel
theorem dL_law_297 : decode cL_law 297 = .ok (.aload_n 0, 1) := by decide +kernel
theorem dL_law_298 : decode cL_law 298 = .ok (.iload 4, 2) := by decide +kernel
theorem dL_law_300 : decode cL_law 300 = .ok (.iconst 1, 1) := by decide +kernel
theorem dL_law_301 : decode cL_law 301 = .ok (.iadd, 1) := by decide +kernel
theorem dL_law_302 : decode cL_law 302 = .ok (.iaload, 1) := by decide +kernel
theorem dL_law_303 : decode cL_law 303 = .ok (.invokevirtual 34, 3) := by decide +kernel
theorem dL_law_306 : decode cL_law 306 = .ok (.if_icmp .eq 924, 3) := by decide +kernel
theorem dL_law_311 : decode cL_law 311 = .ok (.aload_n 1, 1) := by decide +kernel
theorem dL_law_312 : decode cL_law 312 = .ok (.aload_n 0, 1) := by decide +kernel
theorem dL_law_313 : decode cL_law 313 = .ok (.iload 4, 2) := by decide +kernel
theorem dL_law_315 : decode cL_law 315 = .ok (.iconst 1, 1) := by decide +kernel
theorem dL_law_316 : decode cL_law 316 = .ok (.iadd, 1) := by decide +kernel
theorem dL_law_317 : decode cL_law 317 = .ok (.iaload, 1) := by decide +kernel
theorem dL_law_318 : decode cL_law 318 = .ok (.aload_n 0, 1) := by decide +kernel
theorem dL_law_319 : decode cL_law 319 = .ok (.iload 4, 2) := by decide +kernel
theorem dL_law_321 : decode cL_law 321 = .ok (.iconst 2, 1) := by decide +kernel
theorem dL_law_322 : decode cL_law 322 = .ok (.iadd, 1) := by decide +kernel
theorem dL_law_323 : decode cL_law 323 = .ok (.iaload, 1) := by decide +kernel
theorem dL_law_324 : decode cL_law 324 = .ok (.invokevirtual 35, 3) := by decide +kernel
theorem dL_law_327 : decode cL_law 327 = .ok (.aload_n 2, 1) := by decide +kernel
theorem dL_law_328 : decode cL_law 328 = .ok (.aload_n 0, 1) := by decide +kernel
theorem dL_law_329 : decode cL_law 329 = .ok (.iload 4, 2) := by decide +kernel
theorem dL_law_331 : decode cL_law 331 = .ok (.iconst 1, 1) := by decide +kernel
theorem dL_law_332 : decode cL_law 332 = .ok (.iadd, 1) := by decide +kernel
theorem dL_law_333 : decode cL_law 333 = .ok (.iaload, 1) := by decide +kernel
theorem dL_law_334 : decode cL_law 334 = .ok (.aload_n 0, 1) := by decide +kernel
theorem dL_law_335 : decode cL_law 335 = .ok (.iload 4, 2) := by decide +kernel
theorem dL_law_337 : decode cL_law 337 = .ok (.iconst 2, 1) := by decide +kernel
theorem dL_law_338 : decode cL_law 338 = .ok (.iadd, 1) := by decide +kernel
theorem dL_law_339 : decode cL_law 339 = .ok (.iaload, 1) := by decide +kernel
theorem dL_law_340 : decode cL_law 340 = .ok (.invokevirtual 38, 3) := by decide +kernel
theorem dL_law_343 : decode cL_law 343 = .ok (.if_icmp .eq 887, 3) := by decide +kernel
theorem dL_law_348 : decode cL_law 348 = .ok (.aload_n 1, 1) := by decide +kernel
theorem dL_law_349 : decode cL_law 349 = .ok (.invokevirtual 39, 3) := by decide +kernel
theorem dL_law_352 : decode cL_law 352 = .ok (.aload_n 2, 1) := by decide +kernel
theorem dL_law_353 : decode cL_law 353 = .ok (.invokevirtual 43, 3) := by decide +kernel
theorem dL_law_356 : decode cL_law 356 = .ok (.if_icmp .eq 874, 3) := by decide +kernel
theorem dL_law_361 : decode cL_law 361 = .ok (.aload_n 1, 1) := by decide +kernel
theorem dL_law_362 : decode cL_law 362 = .ok (.aload_n 0, 1) := by decide +kernel
theorem dL_law_363 : decode cL_law 363 = .ok (.iload 4, 2) := by decide +kernel
theorem dL_law_365 : decode cL_law 365 = .ok (.iconst 1, 1) := by decide +kernel
theorem dL_law_366 : decode cL_law 366 = .ok (.iadd, 1) := by decide +kernel
theorem dL_law_367 : decode cL_law 367 = .ok (.iaload, 1) := by decide +kernel
theorem dL_law_368 : decode cL_law 368 = .ok (.invokevirtual 44, 3) := by decide +kernel
theorem dL_law_371 : decode cL_law 371 = .ok (.aload_n 2, 1) := by decide +kernel
theorem dL_law_372 : decode cL_law 372 = .ok (.aload_n 0, 1) := by decide +kernel
theorem dL_law_373 : decode cL_law 373 = .ok (.iload 4, 2) := by decide +kernel
theorem dL_law_375 : decode cL_law 375 = .ok (.iconst 1, 1) := by decide +kernel
theorem dL_law_376 : decode cL_law 376 = .ok (.iadd, 1) := by decide +kernel
theorem dL_law_377 : decode cL_law 377 = .ok (.iaload, 1) := by decide +kernel
theorem dL_law_378 : decode cL_law 378 = .ok (.invokevirtual 47, 3) := by decide +kernel
theorem dL_law_381 : decode cL_law 381 = .ok (.if_icmp .eq 849, 3) := by decide +kernel
theorem dL_law_386 : decode cL_law 386 = .ok (.aload_n 1, 1) := by decide +kernel
theorem dL_law_387 : decode cL_law 387 = .ok (.invokevirtual 48, 3) := by decide +kernel
theorem dL_law_390 : decode cL_law 390 = .ok (.aload_n 2, 1) := by decide +kernel
theorem dL_law_391 : decode cL_law 391 = .ok (.invokevirtual 51, 3) := by decide +kernel
theorem dL_law_394 : decode cL_law 394 = .ok (.if_icmp .eq 836, 3) := by decide +kernel
theorem dL_law_399 : decode cL_law 399 = .ok (.aload_n 1, 1) := by decide +kernel
theorem dL_law_400 : decode cL_law 400 = .ok (.aload_n 0, 1) := by decide +kernel
theorem dL_law_401 : decode cL_law 401 = .ok (.iload 4, 2) := by decide +kernel
theorem dL_law_403 : decode cL_law 403 = .ok (.iconst 1, 1) := by decide +kernel
theorem dL_law_404 : decode cL_law 404 = .ok (.iadd, 1) := by decide +kernel
theorem dL_law_405 : decode cL_law 405 = .ok (.iaload, 1) := by decide +kernel
theorem dL_law_406 : decode cL_law 406 = .ok (.aload_n 0, 1) := by decide +kernel
theorem dL_law_407 : decode cL_law 407 = .ok (.iload 4, 2) := by decide +kernel
theorem dL_law_409 : decode cL_law 409 = .ok (.iconst 2, 1) := by decide +kernel
theorem dL_law_410 : decode cL_law 410 = .ok (.iadd, 1) := by decide +kernel
theorem dL_law_411 : decode cL_law 411 = .ok (.iaload, 1) := by decide +kernel
theorem dL_law_412 : decode cL_law 412 = .ok (.invokevirtual 52, 3) := by decide +kernel
theorem dL_law_415 : decode cL_law 415 = .ok (.aload_n 2, 1) := by decide +kernel
theorem dL_law_416 : decode cL_law 416 = .ok (.aload_n 0, 1) := by decide +kernel
theorem dL_law_417 : decode cL_law 417 = .ok (.iload 4, 2) := by decide +kernel
theorem dL_law_419 : decode cL_law 419 = .ok (.iconst 1, 1) := by decide +kernel
theorem dL_law_420 : decode cL_law 420 = .ok (.iadd, 1) := by decide +kernel
theorem dL_law_421 : decode cL_law 421 = .ok (.iaload, 1) := by decide +kernel
theorem dL_law_422 : decode cL_law 422 = .ok (.aload_n 0, 1) := by decide +kernel
theorem dL_law_423 : decode cL_law 423 = .ok (.iload 4, 2) := by decide +kernel
theorem dL_law_425 : decode cL_law 425 = .ok (.iconst 2, 1) := by decide +kernel
theorem dL_law_426 : decode cL_law 426 = .ok (.iadd, 1) := by decide +kernel
theorem dL_law_427 : decode cL_law 427 = .ok (.iaload, 1) := by decide +kernel
theorem dL_law_428 : decode cL_law 428 = .ok (.invokevirtual 55, 3) := by decide +kernel
theorem dL_law_431 : decode cL_law 431 = .ok (.if_icmp .eq 799, 3) := by decide +kernel
theorem dL_law_436 : decode cL_law 436 = .ok (.aload_n 1, 1) := by decide +kernel
theorem dL_law_437 : decode cL_law 437 = .ok (.aload_n 0, 1) := by decide +kernel
theorem dL_law_438 : decode cL_law 438 = .ok (.iload 4, 2) := by decide +kernel
theorem dL_law_440 : decode cL_law 440 = .ok (.iconst 1, 1) := by decide +kernel
theorem dL_law_441 : decode cL_law 441 = .ok (.iadd, 1) := by decide +kernel
theorem dL_law_442 : decode cL_law 442 = .ok (.iaload, 1) := by decide +kernel
theorem dL_law_443 : decode cL_law 443 = .ok (.invokevirtual 56, 3) := by decide +kernel
theorem dL_law_446 : decode cL_law 446 = .ok (.aload_n 2, 1) := by decide +kernel
theorem dL_law_447 : decode cL_law 447 = .ok (.aload_n 0, 1) := by decide +kernel
theorem dL_law_448 : decode cL_law 448 = .ok (.iload 4, 2) := by decide +kernel
theorem dL_law_450 : decode cL_law 450 = .ok (.iconst 1, 1) := by decide +kernel
theorem dL_law_451 : decode cL_law 451 = .ok (.iadd, 1) := by decide +kernel
theorem dL_law_452 : decode cL_law 452 = .ok (.iaload, 1) := by decide +kernel
theorem dL_law_453 : decode cL_law 453 = .ok (.invokevirtual 59, 3) := by decide +kernel
theorem dL_law_456 : decode cL_law 456 = .ok (.if_icmp .eq 774, 3) := by decide +kernel
theorem dL_law_461 : decode cL_law 461 = .ok (.aload_n 1, 1) := by decide +kernel
theorem dL_law_462 : decode cL_law 462 = .ok (.aload_n 0, 1) := by decide +kernel
theorem dL_law_463 : decode cL_law 463 = .ok (.iload 4, 2) := by decide +kernel
theorem dL_law_465 : decode cL_law 465 = .ok (.iconst 1, 1) := by decide +kernel
theorem dL_law_466 : decode cL_law 466 = .ok (.iadd, 1) := by decide +kernel
theorem dL_law_467 : decode cL_law 467 = .ok (.iaload, 1) := by decide +kernel
theorem dL_law_468 : decode cL_law 468 = .ok (.invokevirtual 60, 3) := by decide +kernel
theorem dL_law_471 : decode cL_law 471 = .ok (.aload_n 2, 1) := by decide +kernel
theorem dL_law_472 : decode cL_law 472 = .ok (.aload_n 0, 1) := by decide +kernel
theorem dL_law_473 : decode cL_law 473 = .ok (.iload 4, 2) := by decide +kernel
theorem dL_law_475 : decode cL_law 475 = .ok (.iconst 1, 1) := by decide +kernel
theorem dL_law_476 : decode cL_law 476 = .ok (.iadd, 1) := by decide +kernel
theorem dL_law_477 : decode cL_law 477 = .ok (.iaload, 1) := by decide +kernel
theorem dL_law_478 : decode cL_law 478 = .ok (.invokevirtual 64, 3) := by decide +kernel
theorem dL_law_481 : decode cL_law 481 = .ok (.if_icmp .eq 749, 3) := by decide +kernel
theorem dL_law_486 : decode cL_law 486 = .ok (.aload_n 1, 1) := by decide +kernel
theorem dL_law_487 : decode cL_law 487 = .ok (.aload_n 0, 1) := by decide +kernel
theorem dL_law_488 : decode cL_law 488 = .ok (.iload 4, 2) := by decide +kernel
theorem dL_law_490 : decode cL_law 490 = .ok (.iconst 1, 1) := by decide +kernel
theorem dL_law_491 : decode cL_law 491 = .ok (.iadd, 1) := by decide +kernel
theorem dL_law_492 : decode cL_law 492 = .ok (.iaload, 1) := by decide +kernel
theorem dL_law_493 : decode cL_law 493 = .ok (.invokevirtual 65, 3) := by decide +kernel
theorem dL_law_496 : decode cL_law 496 = .ok (.aload_n 2, 1) := by decide +kernel
theorem dL_law_497 : decode cL_law 497 = .ok (.aload_n 0, 1) := by decide +kernel
theorem dL_law_498 : decode cL_law 498 = .ok (.iload 4, 2) := by decide +kernel
theorem dL_law_500 : decode cL_law 500 = .ok (.iconst 1, 1) := by decide +kernel
theorem dL_law_501 : decode cL_law 501 = .ok (.iadd, 1) := by decide +kernel
theorem dL_law_502 : decode cL_law 502 = .ok (.iaload, 1) := by decide +kernel
theorem dL_law_503 : decode cL_law 503 = .ok (.invokevirtual 68, 3) := by decide +kernel
theorem dL_law_506 : decode cL_law 506 = .ok (.if_icmp .eq 724, 3) := by decide +kernel
theorem dL_law_511 : decode cL_law 511 = .ok (.aload_n 1, 1) := by decide +kernel
theorem dL_law_512 : decode cL_law 512 = .ok (.aload_n 0, 1) := by decide +kernel
theorem dL_law_513 : decode cL_law 513 = .ok (.iload 4, 2) := by decide +kernel
theorem dL_law_515 : decode cL_law 515 = .ok (.iconst 1, 1) := by decide +kernel
theorem dL_law_516 : decode cL_law 516 = .ok (.iadd, 1) := by decide +kernel
theorem dL_law_517 : decode cL_law 517 = .ok (.iaload, 1) := by decide +kernel
theorem dL_law_518 : decode cL_law 518 = .ok (.invokevirtual 69, 3) := by decide +kernel
theorem dL_law_521 : decode cL_law 521 = .ok (.aload_n 2, 1) := by decide +kernel
theorem dL_law_522 : decode cL_law 522 = .ok (.aload_n 0, 1) := by decide +kernel
theorem dL_law_523 : decode cL_law 523 = .ok (.iload 4, 2) := by decide +kernel
theorem dL_law_525 : decode cL_law 525 = .ok (.iconst 1, 1) := by decide +kernel
theorem dL_law_526 : decode cL_law 526 = .ok (.iadd, 1) := by decide +kernel
theorem dL_law_527 : decode cL_law 527 = .ok (.iaload, 1) := by decide +kernel
theorem dL_law_528 : decode cL_law 528 = .ok (.invokevirtual 72, 3) := by decide +kernel
theorem dL_law_531 : decode cL_law 531 = .ok (.if_icmp .eq 699, 3) := by decide +kernel
theorem dL_law_536 : decode cL_law 536 = .ok (.aload_n 1, 1) := by decide +kernel
theorem dL_law_537 : decode cL_law 537 = .ok (.invokevirtual 73, 3) := by decide +kernel
theorem dL_law_540 : decode cL_law 540 = .ok (.aload_n 2, 1) := by decide +kernel
theorem dL_law_541 : decode cL_law 541 = .ok (.invokevirtual 76, 3) := by decide +kernel
theorem dL_law_544 : decode cL_law 544 = .ok (.if_icmp .eq 686, 3) := by decide +kernel
theorem dL_law_549 : decode cL_law 549 = .ok (.aload_n 1, 1) := by decide +kernel
theorem dL_law_550 : decode cL_law 550 = .ok (.aload_n 0, 1) := by decide +kernel
theorem dL_law_551 : decode cL_law 551 = .ok (.iload 4, 2) := by decide +kernel
theorem dL_law_553 : decode cL_law 553 = .ok (.iconst 1, 1) := by decide +kernel
theorem dL_law_554 : decode cL_law 554 = .ok (.iadd, 1) := by decide +kernel
theorem dL_law_555 : decode cL_law 555 = .ok (.iaload, 1) := by decide +kernel
theorem dL_law_556 : decode cL_law 556 = .ok (.invokevirtual 77, 3) := by decide +kernel
theorem dL_law_559 : decode cL_law 559 = .ok (.aload_n 2, 1) := by decide +kernel
theorem dL_law_560 : decode cL_law 560 = .ok (.aload_n 0, 1) := by decide +kernel
theorem dL_law_561 : decode cL_law 561 = .ok (.iload 4, 2) := by decide +kernel
theorem dL_law_563 : decode cL_law 563 = .ok (.iconst 1, 1) := by decide +kernel
theorem dL_law_564 : decode cL_law 564 = .ok (.iadd, 1) := by decide +kernel
theorem dL_law_565 : decode cL_law 565 = .ok (.iaload, 1) := by decide +kernel
theorem dL_law_566 : decode cL_law 566 = .ok (.invokevirtual 80, 3) := by decide +kernel
theorem dL_law_569 : decode cL_law 569 = .ok (.if_icmp .eq 661, 3) := by decide +kernel
theorem dL_law_574 : decode cL_law 574 = .ok (.aload_n 1, 1) := by decide +kernel
theorem dL_law_575 : decode cL_law 575 = .ok (.aload_n 0, 1) := by decide +kernel
theorem dL_law_576 : decode cL_law 576 = .ok (.iload 4, 2) := by decide +kernel
theorem dL_law_578 : decode cL_law 578 = .ok (.iconst 1, 1) := by decide +kernel
theorem dL_law_579 : decode cL_law 579 = .ok (.iadd, 1) := by decide +kernel
theorem dL_law_580 : decode cL_law 580 = .ok (.iaload, 1) := by decide +kernel
theorem dL_law_581 : decode cL_law 581 = .ok (.invokevirtual 81, 3) := by decide +kernel
theorem dL_law_584 : decode cL_law 584 = .ok (.aload_n 2, 1) := by decide +kernel
theorem dL_law_585 : decode cL_law 585 = .ok (.aload_n 0, 1) := by decide +kernel
theorem dL_law_586 : decode cL_law 586 = .ok (.iload 4, 2) := by decide +kernel
theorem dL_law_588 : decode cL_law 588 = .ok (.iconst 1, 1) := by decide +kernel
theorem dL_law_589 : decode cL_law 589 = .ok (.iadd, 1) := by decide +kernel
theorem dL_law_590 : decode cL_law 590 = .ok (.iaload, 1) := by decide +kernel
theorem dL_law_591 : decode cL_law 591 = .ok (.invokevirtual 84, 3) := by decide +kernel
theorem dL_law_594 : decode cL_law 594 = .ok (.if_icmp .eq 636, 3) := by decide +kernel
theorem dL_law_599 : decode cL_law 599 = .ok (.aload_n 1, 1) := by decide +kernel
theorem dL_law_600 : decode cL_law 600 = .ok (.invokevirtual 85, 3) := by decide +kernel
theorem dL_law_603 : decode cL_law 603 = .ok (.aload_n 2, 1) := by decide +kernel
theorem dL_law_604 : decode cL_law 604 = .ok (.invokevirtual 88, 3) := by decide +kernel
theorem dL_law_607 : decode cL_law 607 = .ok (.if_icmp .eq 623, 3) := by decide +kernel
theorem dL_law_612 : decode cL_law 612 = .ok (.aload_n 1, 1) := by decide +kernel
theorem dL_law_613 : decode cL_law 613 = .ok (.aload_n 0, 1) := by decide +kernel
theorem dL_law_614 : decode cL_law 614 = .ok (.iload 4, 2) := by decide +kernel
theorem dL_law_616 : decode cL_law 616 = .ok (.iconst 1, 1) := by decide +kernel
theorem dL_law_617 : decode cL_law 617 = .ok (.iadd, 1) := by decide +kernel
theorem dL_law_618 : decode cL_law 618 = .ok (.iaload, 1) := by decide +kernel
theorem dL_law_619 : decode cL_law 619 = .ok (.invokevirtual 89, 3) := by decide +kernel
theorem dL_law_622 : decode cL_law 622 = .ok (.aload_n 2, 1) := by decide +kernel
theorem dL_law_623 : decode cL_law 623 = .ok (.aload_n 0, 1) := by decide +kernel
theorem dL_law_624 : decode cL_law 624 = .ok (.iload 4, 2) := by decide +kernel
theorem dL_law_626 : decode cL_law 626 = .ok (.iconst 1, 1) := by decide +kernel
theorem dL_law_627 : decode cL_law 627 = .ok (.iadd, 1) := by decide +kernel
theorem dL_law_628 : decode cL_law 628 = .ok (.iaload, 1) := by decide +kernel
theorem dL_law_629 : decode cL_law 629 = .ok (.invokevirtual 92, 3) := by decide +kernel
theorem dL_law_632 : decode cL_law 632 = .ok (.if_icmp .eq 598, 3) := by decide +kernel
theorem dL_law_637 : decode cL_law 637 = .ok (.aload_n 1, 1) := by decide +kernel
theorem dL_law_638 : decode cL_law 638 = .ok (.aload_n 0, 1) := by decide +kernel
theorem dL_law_639 : decode cL_law 639 = .ok (.iload 4, 2) := by decide +kernel
theorem dL_law_641 : decode cL_law 641 = .ok (.iconst 1, 1) := by decide +kernel
theorem dL_law_642 : decode cL_law 642 = .ok (.iadd, 1) := by decide +kernel
theorem dL_law_643 : decode cL_law 643 = .ok (.iaload, 1) := by decide +kernel
theorem dL_law_644 : decode cL_law 644 = .ok (.invokevirtual 93, 3) := by decide +kernel
theorem dL_law_647 : decode cL_law 647 = .ok (.aload_n 2, 1) := by decide +kernel
theorem dL_law_648 : decode cL_law 648 = .ok (.aload_n 0, 1) := by decide +kernel
theorem dL_law_649 : decode cL_law 649 = .ok (.iload 4, 2) := by decide +kernel
theorem dL_law_651 : decode cL_law 651 = .ok (.iconst 1, 1) := by decide +kernel
theorem dL_law_652 : decode cL_law 652 = .ok (.iadd, 1) := by decide +kernel
theorem dL_law_653 : decode cL_law 653 = .ok (.iaload, 1) := by decide +kernel
theorem dL_law_654 : decode cL_law 654 = .ok (.invokevirtual 96, 3) := by decide +kernel
theorem dL_law_657 : decode cL_law 657 = .ok (.if_icmp .eq 573, 3) := by decide +kernel
theorem dL_law_662 : decode cL_law 662 = .ok (.aload_n 1, 1) := by decide +kernel
theorem dL_law_663 : decode cL_law 663 = .ok (.aload_n 0, 1) := by decide +kernel
theorem dL_law_664 : decode cL_law 664 = .ok (.iload 4, 2) := by decide +kernel
theorem dL_law_666 : decode cL_law 666 = .ok (.iconst 1, 1) := by decide +kernel
theorem dL_law_667 : decode cL_law 667 = .ok (.iadd, 1) := by decide +kernel
theorem dL_law_668 : decode cL_law 668 = .ok (.iaload, 1) := by decide +kernel
theorem dL_law_669 : decode cL_law 669 = .ok (.aload_n 0, 1) := by decide +kernel
theorem dL_law_670 : decode cL_law 670 = .ok (.iload 4, 2) := by decide +kernel
theorem dL_law_672 : decode cL_law 672 = .ok (.iconst 2, 1) := by decide +kernel
theorem dL_law_673 : decode cL_law 673 = .ok (.iadd, 1) := by decide +kernel
theorem dL_law_674 : decode cL_law 674 = .ok (.iaload, 1) := by decide +kernel
theorem dL_law_675 : decode cL_law 675 = .ok (.aload_n 0, 1) := by decide +kernel
theorem dL_law_676 : decode cL_law 676 = .ok (.iload 4, 2) := by decide +kernel
theorem dL_law_678 : decode cL_law 678 = .ok (.iconst 3, 1) := by decide +kernel
theorem dL_law_679 : decode cL_law 679 = .ok (.iadd, 1) := by decide +kernel
theorem dL_law_680 : decode cL_law 680 = .ok (.iaload, 1) := by decide +kernel
theorem dL_law_681 : decode cL_law 681 = .ok (.invokevirtual 97, 3) := by decide +kernel
theorem dL_law_684 : decode cL_law 684 = .ok (.aload_n 2, 1) := by decide +kernel
theorem dL_law_685 : decode cL_law 685 = .ok (.aload_n 0, 1) := by decide +kernel
theorem dL_law_686 : decode cL_law 686 = .ok (.iload 4, 2) := by decide +kernel
theorem dL_law_688 : decode cL_law 688 = .ok (.iconst 1, 1) := by decide +kernel
theorem dL_law_689 : decode cL_law 689 = .ok (.iadd, 1) := by decide +kernel
theorem dL_law_690 : decode cL_law 690 = .ok (.iaload, 1) := by decide +kernel
theorem dL_law_691 : decode cL_law 691 = .ok (.aload_n 0, 1) := by decide +kernel
theorem dL_law_692 : decode cL_law 692 = .ok (.iload 4, 2) := by decide +kernel
theorem dL_law_694 : decode cL_law 694 = .ok (.iconst 2, 1) := by decide +kernel
theorem dL_law_695 : decode cL_law 695 = .ok (.iadd, 1) := by decide +kernel
theorem dL_law_696 : decode cL_law 696 = .ok (.iaload, 1) := by decide +kernel
theorem dL_law_697 : decode cL_law 697 = .ok (.aload_n 0, 1) := by decide +kernel
theorem dL_law_698 : decode cL_law 698 = .ok (.iload 4, 2) := by decide +kernel
theorem dL_law_700 : decode cL_law 700 = .ok (.iconst 3, 1) := by decide +kernel
theorem dL_law_701 : decode cL_law 701 = .ok (.iadd, 1) := by decide +kernel
theorem dL_law_702 : decode cL_law 702 = .ok (.iaload, 1) := by decide +kernel
theorem dL_law_703 : decode cL_law 703 = .ok (.invokevirtual 101, 3) := by decide +kernel
theorem dL_law_706 : decode cL_law 706 = .ok (.lcmp, 1) := by decide +kernel
theorem dL_law_707 : decode cL_law 707 = .ok (.ifCond .eq 523, 3) := by decide +kernel
theorem dL_law_712 : decode cL_law 712 = .ok (.aload_n 1, 1) := by decide +kernel
theorem dL_law_713 : decode cL_law 713 = .ok (.aload_n 0, 1) := by decide +kernel
theorem dL_law_714 : decode cL_law 714 = .ok (.iload 4, 2) := by decide +kernel
theorem dL_law_716 : decode cL_law 716 = .ok (.iconst 1, 1) := by decide +kernel
theorem dL_law_717 : decode cL_law 717 = .ok (.iadd, 1) := by decide +kernel
theorem dL_law_718 : decode cL_law 718 = .ok (.iaload, 1) := by decide +kernel
theorem dL_law_719 : decode cL_law 719 = .ok (.aload_n 0, 1) := by decide +kernel
theorem dL_law_720 : decode cL_law 720 = .ok (.iload 4, 2) := by decide +kernel
theorem dL_law_722 : decode cL_law 722 = .ok (.iconst 2, 1) := by decide +kernel
theorem dL_law_723 : decode cL_law 723 = .ok (.iadd, 1) := by decide +kernel
theorem dL_law_724 : decode cL_law 724 = .ok (.iaload, 1) := by decide +kernel
theorem dL_law_725 : decode cL_law 725 = .ok (.aload_n 0, 1) := by decide +kernel
theorem dL_law_726 : decode cL_law 726 = .ok (.iload 4, 2) := by decide +kernel
theorem dL_law_728 : decode cL_law 728 = .ok (.iconst 3, 1) := by decide +kernel
theorem dL_law_729 : decode cL_law 729 = .ok (.iadd, 1) := by decide +kernel
theorem dL_law_730 : decode cL_law 730 = .ok (.iaload, 1) := by decide +kernel
theorem dL_law_731 : decode cL_law 731 = .ok (.invokevirtual 102, 3) := by decide +kernel
theorem dL_law_734 : decode cL_law 734 = .ok (.aload_n 2, 1) := by decide +kernel
theorem dL_law_735 : decode cL_law 735 = .ok (.aload_n 0, 1) := by decide +kernel
theorem dL_law_736 : decode cL_law 736 = .ok (.iload 4, 2) := by decide +kernel
theorem dL_law_738 : decode cL_law 738 = .ok (.iconst 1, 1) := by decide +kernel
theorem dL_law_739 : decode cL_law 739 = .ok (.iadd, 1) := by decide +kernel
theorem dL_law_740 : decode cL_law 740 = .ok (.iaload, 1) := by decide +kernel
theorem dL_law_741 : decode cL_law 741 = .ok (.aload_n 0, 1) := by decide +kernel
theorem dL_law_742 : decode cL_law 742 = .ok (.iload 4, 2) := by decide +kernel
theorem dL_law_744 : decode cL_law 744 = .ok (.iconst 2, 1) := by decide +kernel
theorem dL_law_745 : decode cL_law 745 = .ok (.iadd, 1) := by decide +kernel
theorem dL_law_746 : decode cL_law 746 = .ok (.iaload, 1) := by decide +kernel
theorem dL_law_747 : decode cL_law 747 = .ok (.aload_n 0, 1) := by decide +kernel
theorem dL_law_748 : decode cL_law 748 = .ok (.iload 4, 2) := by decide +kernel
theorem dL_law_750 : decode cL_law 750 = .ok (.iconst 3, 1) := by decide +kernel
theorem dL_law_751 : decode cL_law 751 = .ok (.iadd, 1) := by decide +kernel
theorem dL_law_752 : decode cL_law 752 = .ok (.iaload, 1) := by decide +kernel
theorem dL_law_753 : decode cL_law 753 = .ok (.invokevirtual 105, 3) := by decide +kernel
theorem dL_law_756 : decode cL_law 756 = .ok (.lcmp, 1) := by decide +kernel
theorem dL_law_757 : decode cL_law 757 = .ok (.ifCond .eq 473, 3) := by decide +kernel
theorem dL_law_762 : decode cL_law 762 = .ok (.aload_n 1, 1) := by decide +kernel
theorem dL_law_763 : decode cL_law 763 = .ok (.aload_n 0, 1) := by decide +kernel
theorem dL_law_764 : decode cL_law 764 = .ok (.iload 4, 2) := by decide +kernel
theorem dL_law_766 : decode cL_law 766 = .ok (.iconst 1, 1) := by decide +kernel
theorem dL_law_767 : decode cL_law 767 = .ok (.iadd, 1) := by decide +kernel
theorem dL_law_768 : decode cL_law 768 = .ok (.iaload, 1) := by decide +kernel
theorem dL_law_769 : decode cL_law 769 = .ok (.invokevirtual 106, 3) := by decide +kernel
theorem dL_law_772 : decode cL_law 772 = .ok (.aload_n 2, 1) := by decide +kernel
theorem dL_law_773 : decode cL_law 773 = .ok (.aload_n 0, 1) := by decide +kernel
theorem dL_law_774 : decode cL_law 774 = .ok (.iload 4, 2) := by decide +kernel
theorem dL_law_776 : decode cL_law 776 = .ok (.iconst 1, 1) := by decide +kernel
theorem dL_law_777 : decode cL_law 777 = .ok (.iadd, 1) := by decide +kernel
theorem dL_law_778 : decode cL_law 778 = .ok (.iaload, 1) := by decide +kernel
theorem dL_law_779 : decode cL_law 779 = .ok (.invokevirtual 110, 3) := by decide +kernel
theorem dL_law_782 : decode cL_law 782 = .ok (.lcmp, 1) := by decide +kernel
theorem dL_law_783 : decode cL_law 783 = .ok (.ifCond .eq 447, 3) := by decide +kernel
theorem dL_law_788 : decode cL_law 788 = .ok (.aload_n 1, 1) := by decide +kernel
theorem dL_law_789 : decode cL_law 789 = .ok (.aload_n 0, 1) := by decide +kernel
theorem dL_law_790 : decode cL_law 790 = .ok (.iload 4, 2) := by decide +kernel
theorem dL_law_792 : decode cL_law 792 = .ok (.iconst 1, 1) := by decide +kernel
theorem dL_law_793 : decode cL_law 793 = .ok (.iadd, 1) := by decide +kernel
theorem dL_law_794 : decode cL_law 794 = .ok (.iaload, 1) := by decide +kernel
theorem dL_law_795 : decode cL_law 795 = .ok (.aload_n 0, 1) := by decide +kernel
theorem dL_law_796 : decode cL_law 796 = .ok (.iload 4, 2) := by decide +kernel
theorem dL_law_798 : decode cL_law 798 = .ok (.iconst 2, 1) := by decide +kernel
theorem dL_law_799 : decode cL_law 799 = .ok (.iadd, 1) := by decide +kernel
theorem dL_law_800 : decode cL_law 800 = .ok (.iaload, 1) := by decide +kernel
theorem dL_law_801 : decode cL_law 801 = .ok (.aload_n 0, 1) := by decide +kernel
theorem dL_law_802 : decode cL_law 802 = .ok (.iload 4, 2) := by decide +kernel
theorem dL_law_804 : decode cL_law 804 = .ok (.iconst 3, 1) := by decide +kernel
theorem dL_law_805 : decode cL_law 805 = .ok (.iadd, 1) := by decide +kernel
theorem dL_law_806 : decode cL_law 806 = .ok (.iaload, 1) := by decide +kernel
theorem dL_law_807 : decode cL_law 807 = .ok (.invokevirtual 111, 3) := by decide +kernel
theorem dL_law_810 : decode cL_law 810 = .ok (.aload_n 2, 1) := by decide +kernel
theorem dL_law_811 : decode cL_law 811 = .ok (.aload_n 0, 1) := by decide +kernel
theorem dL_law_812 : decode cL_law 812 = .ok (.iload 4, 2) := by decide +kernel
theorem dL_law_814 : decode cL_law 814 = .ok (.iconst 1, 1) := by decide +kernel
theorem dL_law_815 : decode cL_law 815 = .ok (.iadd, 1) := by decide +kernel
theorem dL_law_816 : decode cL_law 816 = .ok (.iaload, 1) := by decide +kernel
theorem dL_law_817 : decode cL_law 817 = .ok (.aload_n 0, 1) := by decide +kernel
theorem dL_law_818 : decode cL_law 818 = .ok (.iload 4, 2) := by decide +kernel
theorem dL_law_820 : decode cL_law 820 = .ok (.iconst 2, 1) := by decide +kernel
theorem dL_law_821 : decode cL_law 821 = .ok (.iadd, 1) := by decide +kernel
theorem dL_law_822 : decode cL_law 822 = .ok (.iaload, 1) := by decide +kernel
theorem dL_law_823 : decode cL_law 823 = .ok (.aload_n 0, 1) := by decide +kernel
theorem dL_law_824 : decode cL_law 824 = .ok (.iload 4, 2) := by decide +kernel
theorem dL_law_826 : decode cL_law 826 = .ok (.iconst 3, 1) := by decide +kernel
theorem dL_law_827 : decode cL_law 827 = .ok (.iadd, 1) := by decide +kernel
theorem dL_law_828 : decode cL_law 828 = .ok (.iaload, 1) := by decide +kernel
theorem dL_law_829 : decode cL_law 829 = .ok (.invokevirtual 114, 3) := by decide +kernel
theorem dL_law_832 : decode cL_law 832 = .ok (.lcmp, 1) := by decide +kernel
theorem dL_law_833 : decode cL_law 833 = .ok (.ifCond .eq 397, 3) := by decide +kernel
theorem dL_law_838 : decode cL_law 838 = .ok (.aload_n 1, 1) := by decide +kernel
theorem dL_law_839 : decode cL_law 839 = .ok (.aload_n 0, 1) := by decide +kernel
theorem dL_law_840 : decode cL_law 840 = .ok (.iload 4, 2) := by decide +kernel
theorem dL_law_842 : decode cL_law 842 = .ok (.iconst 1, 1) := by decide +kernel
theorem dL_law_843 : decode cL_law 843 = .ok (.iadd, 1) := by decide +kernel
theorem dL_law_844 : decode cL_law 844 = .ok (.iaload, 1) := by decide +kernel
theorem dL_law_845 : decode cL_law 845 = .ok (.invokevirtual 115, 3) := by decide +kernel
theorem dL_law_848 : decode cL_law 848 = .ok (.aload_n 2, 1) := by decide +kernel
theorem dL_law_849 : decode cL_law 849 = .ok (.aload_n 0, 1) := by decide +kernel
theorem dL_law_850 : decode cL_law 850 = .ok (.iload 4, 2) := by decide +kernel
theorem dL_law_852 : decode cL_law 852 = .ok (.iconst 1, 1) := by decide +kernel
theorem dL_law_853 : decode cL_law 853 = .ok (.iadd, 1) := by decide +kernel
theorem dL_law_854 : decode cL_law 854 = .ok (.iaload, 1) := by decide +kernel
theorem dL_law_855 : decode cL_law 855 = .ok (.invokevirtual 118, 3) := by decide +kernel
theorem dL_law_858 : decode cL_law 858 = .ok (.if_icmp .eq 372, 3) := by decide +kernel
theorem dL_law_863 : decode cL_law 863 = .ok (.aload_n 1, 1) := by decide +kernel
theorem dL_law_864 : decode cL_law 864 = .ok (.aload_n 0, 1) := by decide +kernel
theorem dL_law_865 : decode cL_law 865 = .ok (.iload 4, 2) := by decide +kernel
theorem dL_law_867 : decode cL_law 867 = .ok (.iconst 1, 1) := by decide +kernel
theorem dL_law_868 : decode cL_law 868 = .ok (.iadd, 1) := by decide +kernel
theorem dL_law_869 : decode cL_law 869 = .ok (.iaload, 1) := by decide +kernel
theorem dL_law_870 : decode cL_law 870 = .ok (.invokevirtual 119, 3) := by decide +kernel
theorem dL_law_873 : decode cL_law 873 = .ok (.aload_n 2, 1) := by decide +kernel
theorem dL_law_874 : decode cL_law 874 = .ok (.aload_n 0, 1) := by decide +kernel
theorem dL_law_875 : decode cL_law 875 = .ok (.iload 4, 2) := by decide +kernel
theorem dL_law_877 : decode cL_law 877 = .ok (.iconst 1, 1) := by decide +kernel
theorem dL_law_878 : decode cL_law 878 = .ok (.iadd, 1) := by decide +kernel
theorem dL_law_879 : decode cL_law 879 = .ok (.iaload, 1) := by decide +kernel
theorem dL_law_880 : decode cL_law 880 = .ok (.invokevirtual 122, 3) := by decide +kernel
theorem dL_law_883 : decode cL_law 883 = .ok (.if_icmp .eq 347, 3) := by decide +kernel
theorem dL_law_888 : decode cL_law 888 = .ok (.aload_n 1, 1) := by decide +kernel
theorem dL_law_889 : decode cL_law 889 = .ok (.aload_n 0, 1) := by decide +kernel
theorem dL_law_890 : decode cL_law 890 = .ok (.iload 4, 2) := by decide +kernel
theorem dL_law_892 : decode cL_law 892 = .ok (.iconst 1, 1) := by decide +kernel
theorem dL_law_893 : decode cL_law 893 = .ok (.iadd, 1) := by decide +kernel
theorem dL_law_894 : decode cL_law 894 = .ok (.iaload, 1) := by decide +kernel
theorem dL_law_895 : decode cL_law 895 = .ok (.aload_n 0, 1) := by decide +kernel
theorem dL_law_896 : decode cL_law 896 = .ok (.iload 4, 2) := by decide +kernel
theorem dL_law_898 : decode cL_law 898 = .ok (.iconst 2, 1) := by decide +kernel
theorem dL_law_899 : decode cL_law 899 = .ok (.iadd, 1) := by decide +kernel
theorem dL_law_900 : decode cL_law 900 = .ok (.iaload, 1) := by decide +kernel
theorem dL_law_901 : decode cL_law 901 = .ok (.aload_n 0, 1) := by decide +kernel
theorem dL_law_902 : decode cL_law 902 = .ok (.iload 4, 2) := by decide +kernel
theorem dL_law_904 : decode cL_law 904 = .ok (.iconst 3, 1) := by decide +kernel
theorem dL_law_905 : decode cL_law 905 = .ok (.iadd, 1) := by decide +kernel
theorem dL_law_906 : decode cL_law 906 = .ok (.iaload, 1) := by decide +kernel
theorem dL_law_907 : decode cL_law 907 = .ok (.invokevirtual 123, 3) := by decide +kernel
theorem dL_law_910 : decode cL_law 910 = .ok (.aload_n 2, 1) := by decide +kernel
theorem dL_law_911 : decode cL_law 911 = .ok (.aload_n 0, 1) := by decide +kernel
theorem dL_law_912 : decode cL_law 912 = .ok (.iload 4, 2) := by decide +kernel
theorem dL_law_914 : decode cL_law 914 = .ok (.iconst 1, 1) := by decide +kernel
theorem dL_law_915 : decode cL_law 915 = .ok (.iadd, 1) := by decide +kernel
theorem dL_law_916 : decode cL_law 916 = .ok (.iaload, 1) := by decide +kernel
theorem dL_law_917 : decode cL_law 917 = .ok (.aload_n 0, 1) := by decide +kernel
theorem dL_law_918 : decode cL_law 918 = .ok (.iload 4, 2) := by decide +kernel
theorem dL_law_920 : decode cL_law 920 = .ok (.iconst 2, 1) := by decide +kernel
theorem dL_law_921 : decode cL_law 921 = .ok (.iadd, 1) := by decide +kernel
theorem dL_law_922 : decode cL_law 922 = .ok (.iaload, 1) := by decide +kernel
theorem dL_law_923 : decode cL_law 923 = .ok (.aload_n 0, 1) := by decide +kernel
theorem dL_law_924 : decode cL_law 924 = .ok (.iload 4, 2) := by decide +kernel
theorem dL_law_926 : decode cL_law 926 = .ok (.iconst 3, 1) := by decide +kernel
theorem dL_law_927 : decode cL_law 927 = .ok (.iadd, 1) := by decide +kernel
theorem dL_law_928 : decode cL_law 928 = .ok (.iaload, 1) := by decide +kernel
theorem dL_law_929 : decode cL_law 929 = .ok (.invokevirtual 126, 3) := by decide +kernel
theorem dL_law_932 : decode cL_law 932 = .ok (.lcmp, 1) := by decide +kernel
theorem dL_law_933 : decode cL_law 933 = .ok (.ifCond .eq 297, 3) := by decide +kernel
theorem dL_law_938 : decode cL_law 938 = .ok (.aload_n 1, 1) := by decide +kernel
theorem dL_law_939 : decode cL_law 939 = .ok (.aload_n 0, 1) := by decide +kernel
theorem dL_law_940 : decode cL_law 940 = .ok (.iload 4, 2) := by decide +kernel
theorem dL_law_942 : decode cL_law 942 = .ok (.iconst 1, 1) := by decide +kernel
theorem dL_law_943 : decode cL_law 943 = .ok (.iadd, 1) := by decide +kernel
theorem dL_law_944 : decode cL_law 944 = .ok (.iaload, 1) := by decide +kernel
theorem dL_law_945 : decode cL_law 945 = .ok (.invokevirtual 127, 3) := by decide +kernel
theorem dL_law_948 : decode cL_law 948 = .ok (.aload_n 2, 1) := by decide +kernel
theorem dL_law_949 : decode cL_law 949 = .ok (.aload_n 0, 1) := by decide +kernel
theorem dL_law_950 : decode cL_law 950 = .ok (.iload 4, 2) := by decide +kernel
theorem dL_law_952 : decode cL_law 952 = .ok (.iconst 1, 1) := by decide +kernel
theorem dL_law_953 : decode cL_law 953 = .ok (.iadd, 1) := by decide +kernel
theorem dL_law_954 : decode cL_law 954 = .ok (.iaload, 1) := by decide +kernel
theorem dL_law_955 : decode cL_law 955 = .ok (.invokevirtual 130, 3) := by decide +kernel
theorem dL_law_958 : decode cL_law 958 = .ok (.if_icmp .eq 272, 3) := by decide +kernel
theorem dL_law_963 : decode cL_law 963 = .ok (.aload_n 1, 1) := by decide +kernel
theorem dL_law_964 : decode cL_law 964 = .ok (.aload_n 0, 1) := by decide +kernel
theorem dL_law_965 : decode cL_law 965 = .ok (.iload 4, 2) := by decide +kernel
theorem dL_law_967 : decode cL_law 967 = .ok (.iconst 1, 1) := by decide +kernel
theorem dL_law_968 : decode cL_law 968 = .ok (.iadd, 1) := by decide +kernel
theorem dL_law_969 : decode cL_law 969 = .ok (.iaload, 1) := by decide +kernel
theorem dL_law_970 : decode cL_law 970 = .ok (.invokevirtual 131, 3) := by decide +kernel
theorem dL_law_973 : decode cL_law 973 = .ok (.aload_n 2, 1) := by decide +kernel
theorem dL_law_974 : decode cL_law 974 = .ok (.aload_n 0, 1) := by decide +kernel
theorem dL_law_975 : decode cL_law 975 = .ok (.iload 4, 2) := by decide +kernel
theorem dL_law_977 : decode cL_law 977 = .ok (.iconst 1, 1) := by decide +kernel
theorem dL_law_978 : decode cL_law 978 = .ok (.iadd, 1) := by decide +kernel
theorem dL_law_979 : decode cL_law 979 = .ok (.iaload, 1) := by decide +kernel
theorem dL_law_980 : decode cL_law 980 = .ok (.invokevirtual 134, 3) := by decide +kernel
theorem dL_law_983 : decode cL_law 983 = .ok (.if_icmp .eq 247, 3) := by decide +kernel
theorem dL_law_988 : decode cL_law 988 = .ok (.aload_n 1, 1) := by decide +kernel
theorem dL_law_989 : decode cL_law 989 = .ok (.aload_n 0, 1) := by decide +kernel
theorem dL_law_990 : decode cL_law 990 = .ok (.iload 4, 2) := by decide +kernel
theorem dL_law_992 : decode cL_law 992 = .ok (.iconst 1, 1) := by decide +kernel
theorem dL_law_993 : decode cL_law 993 = .ok (.iadd, 1) := by decide +kernel
theorem dL_law_994 : decode cL_law 994 = .ok (.iaload, 1) := by decide +kernel
theorem dL_law_995 : decode cL_law 995 = .ok (.aload_n 0, 1) := by decide +kernel
theorem dL_law_996 : decode cL_law 996 = .ok (.iload 4, 2) := by decide +kernel
theorem dL_law_998 : decode cL_law 998 = .ok (.iconst 2, 1) := by decide +kernel
theorem dL_law_999 : decode cL_law 999 = .ok (.iadd, 1) := by decide +kernel
theorem dL_law_1000 : decode cL_law 1000 = .ok (.iaload, 1) := by decide +kernel
theorem dL_law_1001 : decode cL_law 1001 = .ok (.invokevirtual 135, 3) := by decide +kernel
theorem dL_law_1004 : decode cL_law 1004 = .ok (.aload_n 2, 1) := by decide +kernel
theorem dL_law_1005 : decode cL_law 1005 = .ok (.aload_n 0, 1) := by decide +kernel
theorem dL_law_1006 : decode cL_law 1006 = .ok (.iload 4, 2) := by decide +kernel
theorem dL_law_1008 : decode cL_law 1008 = .ok (.iconst 1, 1) := by decide +kernel
theorem dL_law_1009 : decode cL_law 1009 = .ok (.iadd, 1) := by decide +kernel
theorem dL_law_1010 : decode cL_law 1010 = .ok (.iaload, 1) := by decide +kernel
theorem dL_law_1011 : decode cL_law 1011 = .ok (.aload_n 0, 1) := by decide +kernel
theorem dL_law_1012 : decode cL_law 1012 = .ok (.iload 4, 2) := by decide +kernel
theorem dL_law_1014 : decode cL_law 1014 = .ok (.iconst 2, 1) := by decide +kernel
theorem dL_law_1015 : decode cL_law 1015 = .ok (.iadd, 1) := by decide +kernel
theorem dL_law_1016 : decode cL_law 1016 = .ok (.iaload, 1) := by decide +kernel
theorem dL_law_1017 : decode cL_law 1017 = .ok (.invokevirtual 138, 3) := by decide +kernel
theorem dL_law_1020 : decode cL_law 1020 = .ok (.if_icmp .eq 210, 3) := by decide +kernel
theorem dL_law_1025 : decode cL_law 1025 = .ok (.aload_n 1, 1) := by decide +kernel
theorem dL_law_1026 : decode cL_law 1026 = .ok (.aload_n 0, 1) := by decide +kernel
theorem dL_law_1027 : decode cL_law 1027 = .ok (.iload 4, 2) := by decide +kernel
theorem dL_law_1029 : decode cL_law 1029 = .ok (.iconst 1, 1) := by decide +kernel
theorem dL_law_1030 : decode cL_law 1030 = .ok (.iadd, 1) := by decide +kernel
theorem dL_law_1031 : decode cL_law 1031 = .ok (.iaload, 1) := by decide +kernel
theorem dL_law_1032 : decode cL_law 1032 = .ok (.aload_n 0, 1) := by decide +kernel
theorem dL_law_1033 : decode cL_law 1033 = .ok (.iload 4, 2) := by decide +kernel
theorem dL_law_1035 : decode cL_law 1035 = .ok (.iconst 2, 1) := by decide +kernel
theorem dL_law_1036 : decode cL_law 1036 = .ok (.iadd, 1) := by decide +kernel
theorem dL_law_1037 : decode cL_law 1037 = .ok (.iaload, 1) := by decide +kernel
theorem dL_law_1038 : decode cL_law 1038 = .ok (.invokevirtual 139, 3) := by decide +kernel
theorem dL_law_1041 : decode cL_law 1041 = .ok (.aload_n 2, 1) := by decide +kernel
theorem dL_law_1042 : decode cL_law 1042 = .ok (.aload_n 0, 1) := by decide +kernel
theorem dL_law_1043 : decode cL_law 1043 = .ok (.iload 4, 2) := by decide +kernel
theorem dL_law_1045 : decode cL_law 1045 = .ok (.iconst 1, 1) := by decide +kernel
theorem dL_law_1046 : decode cL_law 1046 = .ok (.iadd, 1) := by decide +kernel
theorem dL_law_1047 : decode cL_law 1047 = .ok (.iaload, 1) := by decide +kernel
theorem dL_law_1048 : decode cL_law 1048 = .ok (.aload_n 0, 1) := by decide +kernel
theorem dL_law_1049 : decode cL_law 1049 = .ok (.iload 4, 2) := by decide +kernel
theorem dL_law_1051 : decode cL_law 1051 = .ok (.iconst 2, 1) := by decide +kernel
theorem dL_law_1052 : decode cL_law 1052 = .ok (.iadd, 1) := by decide +kernel
theorem dL_law_1053 : decode cL_law 1053 = .ok (.iaload, 1) := by decide +kernel
theorem dL_law_1054 : decode cL_law 1054 = .ok (.invokevirtual 143, 3) := by decide +kernel
theorem dL_law_1057 : decode cL_law 1057 = .ok (.lcmp, 1) := by decide +kernel
theorem dL_law_1058 : decode cL_law 1058 = .ok (.ifCond .eq 172, 3) := by decide +kernel
theorem dL_law_1063 : decode cL_law 1063 = .ok (.aload_n 1, 1) := by decide +kernel
theorem dL_law_1064 : decode cL_law 1064 = .ok (.aload_n 0, 1) := by decide +kernel
theorem dL_law_1065 : decode cL_law 1065 = .ok (.iload 4, 2) := by decide +kernel
theorem dL_law_1067 : decode cL_law 1067 = .ok (.iconst 1, 1) := by decide +kernel
theorem dL_law_1068 : decode cL_law 1068 = .ok (.iadd, 1) := by decide +kernel
theorem dL_law_1069 : decode cL_law 1069 = .ok (.iaload, 1) := by decide +kernel
theorem dL_law_1070 : decode cL_law 1070 = .ok (.aload_n 0, 1) := by decide +kernel
theorem dL_law_1071 : decode cL_law 1071 = .ok (.iload 4, 2) := by decide +kernel
theorem dL_law_1073 : decode cL_law 1073 = .ok (.iconst 2, 1) := by decide +kernel
theorem dL_law_1074 : decode cL_law 1074 = .ok (.iadd, 1) := by decide +kernel
theorem dL_law_1075 : decode cL_law 1075 = .ok (.iaload, 1) := by decide +kernel
theorem dL_law_1076 : decode cL_law 1076 = .ok (.invokevirtual 144, 3) := by decide +kernel
theorem dL_law_1079 : decode cL_law 1079 = .ok (.aload_n 2, 1) := by decide +kernel
theorem dL_law_1080 : decode cL_law 1080 = .ok (.aload_n 0, 1) := by decide +kernel
theorem dL_law_1081 : decode cL_law 1081 = .ok (.iload 4, 2) := by decide +kernel
theorem dL_law_1083 : decode cL_law 1083 = .ok (.iconst 1, 1) := by decide +kernel
theorem dL_law_1084 : decode cL_law 1084 = .ok (.iadd, 1) := by decide +kernel
theorem dL_law_1085 : decode cL_law 1085 = .ok (.iaload, 1) := by decide +kernel
theorem dL_law_1086 : decode cL_law 1086 = .ok (.aload_n 0, 1) := by decide +kernel
theorem dL_law_1087 : decode cL_law 1087 = .ok (.iload 4, 2) := by decide +kernel
theorem dL_law_1089 : decode cL_law 1089 = .ok (.iconst 2, 1) := by decide +kernel
theorem dL_law_1090 : decode cL_law 1090 = .ok (.iadd, 1) := by decide +kernel
theorem dL_law_1091 : decode cL_law 1091 = .ok (.iaload, 1) := by decide +kernel
theorem dL_law_1092 : decode cL_law 1092 = .ok (.invokevirtual 147, 3) := by decide +kernel
theorem dL_law_1095 : decode cL_law 1095 = .ok (.if_icmp .eq 135, 3) := by decide +kernel
theorem dL_law_1100 : decode cL_law 1100 = .ok (.aload_n 1, 1) := by decide +kernel
theorem dL_law_1101 : decode cL_law 1101 = .ok (.aload_n 0, 1) := by decide +kernel
theorem dL_law_1102 : decode cL_law 1102 = .ok (.iload 4, 2) := by decide +kernel
theorem dL_law_1104 : decode cL_law 1104 = .ok (.iconst 1, 1) := by decide +kernel
theorem dL_law_1105 : decode cL_law 1105 = .ok (.iadd, 1) := by decide +kernel
theorem dL_law_1106 : decode cL_law 1106 = .ok (.iaload, 1) := by decide +kernel
theorem dL_law_1107 : decode cL_law 1107 = .ok (.aload_n 0, 1) := by decide +kernel
theorem dL_law_1108 : decode cL_law 1108 = .ok (.iload 4, 2) := by decide +kernel
theorem dL_law_1110 : decode cL_law 1110 = .ok (.iconst 2, 1) := by decide +kernel
theorem dL_law_1111 : decode cL_law 1111 = .ok (.iadd, 1) := by decide +kernel
theorem dL_law_1112 : decode cL_law 1112 = .ok (.iaload, 1) := by decide +kernel
theorem dL_law_1113 : decode cL_law 1113 = .ok (.invokevirtual 148, 3) := by decide +kernel
theorem dL_law_1116 : decode cL_law 1116 = .ok (.aload_n 2, 1) := by decide +kernel
theorem dL_law_1117 : decode cL_law 1117 = .ok (.aload_n 0, 1) := by decide +kernel
theorem dL_law_1118 : decode cL_law 1118 = .ok (.iload 4, 2) := by decide +kernel
theorem dL_law_1120 : decode cL_law 1120 = .ok (.iconst 1, 1) := by decide +kernel
theorem dL_law_1121 : decode cL_law 1121 = .ok (.iadd, 1) := by decide +kernel
theorem dL_law_1122 : decode cL_law 1122 = .ok (.iaload, 1) := by decide +kernel
theorem dL_law_1123 : decode cL_law 1123 = .ok (.aload_n 0, 1) := by decide +kernel
theorem dL_law_1124 : decode cL_law 1124 = .ok (.iload 4, 2) := by decide +kernel
theorem dL_law_1126 : decode cL_law 1126 = .ok (.iconst 2, 1) := by decide +kernel
theorem dL_law_1127 : decode cL_law 1127 = .ok (.iadd, 1) := by decide +kernel
theorem dL_law_1128 : decode cL_law 1128 = .ok (.iaload, 1) := by decide +kernel
theorem dL_law_1129 : decode cL_law 1129 = .ok (.invokevirtual 151, 3) := by decide +kernel
theorem dL_law_1132 : decode cL_law 1132 = .ok (.if_icmp .eq 98, 3) := by decide +kernel
theorem dL_law_1137 : decode cL_law 1137 = .ok (.aload_n 1, 1) := by decide +kernel
theorem dL_law_1138 : decode cL_law 1138 = .ok (.aload_n 0, 1) := by decide +kernel
theorem dL_law_1139 : decode cL_law 1139 = .ok (.iload 4, 2) := by decide +kernel
theorem dL_law_1141 : decode cL_law 1141 = .ok (.iconst 1, 1) := by decide +kernel
theorem dL_law_1142 : decode cL_law 1142 = .ok (.iadd, 1) := by decide +kernel
theorem dL_law_1143 : decode cL_law 1143 = .ok (.iaload, 1) := by decide +kernel
theorem dL_law_1144 : decode cL_law 1144 = .ok (.aload_n 0, 1) := by decide +kernel
theorem dL_law_1145 : decode cL_law 1145 = .ok (.iload 4, 2) := by decide +kernel
theorem dL_law_1147 : decode cL_law 1147 = .ok (.iconst 2, 1) := by decide +kernel
theorem dL_law_1148 : decode cL_law 1148 = .ok (.iadd, 1) := by decide +kernel
theorem dL_law_1149 : decode cL_law 1149 = .ok (.iaload, 1) := by decide +kernel
theorem dL_law_1150 : decode cL_law 1150 = .ok (.aload_n 3, 1) := by decide +kernel
theorem dL_law_1151 : decode cL_law 1151 = .ok (.invokestatic 152, 3) := by decide +kernel
theorem dL_law_1154 : decode cL_law 1154 = .ok (.istore 5, 2) := by decide +kernel
theorem dL_law_1156 : decode cL_law 1156 = .ok (.aload_n 2, 1) := by decide +kernel
theorem dL_law_1157 : decode cL_law 1157 = .ok (.aload_n 0, 1) := by decide +kernel
theorem dL_law_1158 : decode cL_law 1158 = .ok (.iload 4, 2) := by decide +kernel
theorem dL_law_1160 : decode cL_law 1160 = .ok (.iconst 1, 1) := by decide +kernel
theorem dL_law_1161 : decode cL_law 1161 = .ok (.iadd, 1) := by decide +kernel
theorem dL_law_1162 : decode cL_law 1162 = .ok (.iaload, 1) := by decide +kernel
theorem dL_law_1163 : decode cL_law 1163 = .ok (.aload_n 0, 1) := by decide +kernel
theorem dL_law_1164 : decode cL_law 1164 = .ok (.iload 4, 2) := by decide +kernel
theorem dL_law_1166 : decode cL_law 1166 = .ok (.iconst 2, 1) := by decide +kernel
theorem dL_law_1167 : decode cL_law 1167 = .ok (.iadd, 1) := by decide +kernel
theorem dL_law_1168 : decode cL_law 1168 = .ok (.iaload, 1) := by decide +kernel
theorem dL_law_1169 : decode cL_law 1169 = .ok (.invokevirtual 157, 3) := by decide +kernel
theorem dL_law_1172 : decode cL_law 1172 = .ok (.istore 6, 2) := by decide +kernel
theorem dL_law_1174 : decode cL_law 1174 = .ok (.aload_n 2, 1) := by decide +kernel
theorem dL_law_1175 : decode cL_law 1175 = .ok (.invokevirtual 158, 3) := by decide +kernel
theorem dL_law_1178 : decode cL_law 1178 = .ok (.iload 5, 2) := by decide +kernel
theorem dL_law_1180 : decode cL_law 1180 = .ok (.if_icmp .eq 5, 3) := by decide +kernel
theorem dL_law_1185 : decode cL_law 1185 = .ok (.iload 5, 2) := by decide +kernel
theorem dL_law_1187 : decode cL_law 1187 = .ok (.ifCond .ne 15, 3) := by decide +kernel
theorem dL_law_1202 : decode cL_law 1202 = .ok (.goto 28, 3) := by decide +kernel
theorem dL_law_1205 : decode cL_law 1205 = .ok (.aload_n 1, 1) := by decide +kernel
theorem dL_law_1206 : decode cL_law 1206 = .ok (.aload_n 0, 1) := by decide +kernel
theorem dL_law_1207 : decode cL_law 1207 = .ok (.iload 4, 2) := by decide +kernel
theorem dL_law_1209 : decode cL_law 1209 = .ok (.iconst 1, 1) := by decide +kernel
theorem dL_law_1210 : decode cL_law 1210 = .ok (.iadd, 1) := by decide +kernel
theorem dL_law_1211 : decode cL_law 1211 = .ok (.iaload, 1) := by decide +kernel
theorem dL_law_1212 : decode cL_law 1212 = .ok (.invokevirtual 161, 3) := by decide +kernel
theorem dL_law_1215 : decode cL_law 1215 = .ok (.aload_n 2, 1) := by decide +kernel
theorem dL_law_1216 : decode cL_law 1216 = .ok (.aload_n 0, 1) := by decide +kernel
theorem dL_law_1217 : decode cL_law 1217 = .ok (.iload 4, 2) := by decide +kernel
theorem dL_law_1219 : decode cL_law 1219 = .ok (.iconst 1, 1) := by decide +kernel
theorem dL_law_1220 : decode cL_law 1220 = .ok (.iadd, 1) := by decide +kernel
theorem dL_law_1221 : decode cL_law 1221 = .ok (.iaload, 1) := by decide +kernel
theorem dL_law_1222 : decode cL_law 1222 = .ok (.invokevirtual 164, 3) := by decide +kernel
theorem dL_law_1225 : decode cL_law 1225 = .ok (.if_icmp .eq 5, 3) := by decide +kernel
theorem dL_law_1230 : decode cL_law 1230 = .ok (.iinc 4 6, 3) := by decide +kernel
theorem dL_law_1233 : decode cL_law 1233 = .ok (.goto (-1210), 3) := by decide +kernel
theorem dL_law_1236 : decode cL_law 1236 = .ok (.iconst 1, 1) := by decide +kernel
theorem dL_law_1237 : decode cL_law 1237 = .ok (.ireturn, 1) := by decide +kernel
