theorem mw_X7_keepRows__15 : (.methodLink RX7 57 yX4_groupAt : Cond) ∈ wsX7_keepRows := List.mem_of_getElem? (i := 15) rfl
theorem mw_X7_keepRows__16 : (.instanceMethod yX4_groupAt : Cond) ∈ wsX7_keepRows := List.mem_of_getElem? (i := 16) rfl
theorem mw_X7_keepRows__17 : (.selects RX4 yX4_groupAt yX4_groupAt : Cond) ∈ wsX7_keepRows := List.mem_of_getElem? (i := 17) rfl
theorem mw_X7_keepRows__18 : (.initialized RX4 : Cond) ∈ wsX7_keepRows := List.mem_of_getElem? (i := 18) rfl
theorem mw_X7_keepRows__19 : (.code yX4_groupAt cX4_groupAt 3 (some .int) : Cond) ∈ wsX7_keepRows := List.mem_of_getElem? (i := 19) rfl
theorem mw_X7_keepRows__20 : (.fieldLink RX4 9 "BallPots$Ranks" "groupOf" "[I" : Cond) ∈ wsX7_keepRows := List.mem_of_getElem? (i := 20) rfl
theorem mw_X7_skip__1 : (.fieldLink RX7 15 "BallPots$Spread" "rows" "[J" : Cond) ∈ wsX7_skip := List.mem_of_getElem? (i := 1) rfl
theorem mw_X7_skip__2 : (.fieldLink RX7 25 "BallPots$Spread" "ranks" "LBallPots$Ranks;" : Cond) ∈ wsX7_skip := List.mem_of_getElem? (i := 2) rfl
theorem mw_X7_skip__3 : (.fieldLink RX7 9 "BallPots$Spread" "groupAt" "[I" : Cond) ∈ wsX7_skip := List.mem_of_getElem? (i := 3) rfl
theorem mw_X7_skip__4 : (.methodLink RX7 77 yX4_only : Cond) ∈ wsX7_skip := List.mem_of_getElem? (i := 4) rfl
theorem mw_X7_skip__5 : (.static yX4_only : Cond) ∈ wsX7_skip := List.mem_of_getElem? (i := 5) rfl
theorem mw_X7_skip__6 : (.initialized RX4 : Cond) ∈ wsX7_skip := List.mem_of_getElem? (i := 6) rfl
theorem mw_X7_skip__7 : (.code yX4_only cX4_only 1 (some .int) : Cond) ∈ wsX7_skip := List.mem_of_getElem? (i := 7) rfl
theorem mw_X7_skip__8 : (.methodLink RX4 69 yJ6_bitCount_0f7a4 : Cond) ∈ wsX7_skip := List.mem_of_getElem? (i := 8) rfl
theorem mw_X7_skip__9 : (.static yJ6_bitCount_0f7a4 : Cond) ∈ wsX7_skip := List.mem_of_getElem? (i := 9) rfl
theorem mw_X7_skip__10 : (.initialized RJ6 : Cond) ∈ wsX7_skip := List.mem_of_getElem? (i := 10) rfl
theorem mw_X7_skip__11 : (.code yJ6_bitCount_0f7a4 cJ6_bitCount_0f7a4 1 (some .int) : Cond) ∈ wsX7_skip := List.mem_of_getElem? (i := 11) rfl
theorem mw_X7_skip__12 : (.constant RJ6 265 (1431655765) : Cond) ∈ wsX7_skip := List.mem_of_getElem? (i := 12) rfl
theorem mw_X7_skip__13 : (.constant RJ6 266 (858993459) : Cond) ∈ wsX7_skip := List.mem_of_getElem? (i := 13) rfl
theorem mw_X7_skip__14 : (.constant RJ6 267 (252645135) : Cond) ∈ wsX7_skip := List.mem_of_getElem? (i := 14) rfl
theorem mw_X7_skip__15 : (.methodLink RX7 83 yX4_firstOpen : Cond) ∈ wsX7_skip := List.mem_of_getElem? (i := 15) rfl
theorem mw_X7_skip__16 : (.instanceMethod yX4_firstOpen : Cond) ∈ wsX7_skip := List.mem_of_getElem? (i := 16) rfl
theorem mw_X7_skip__17 : (.selects RX4 yX4_firstOpen yX4_firstOpen : Cond) ∈ wsX7_skip := List.mem_of_getElem? (i := 17) rfl
theorem mw_X7_skip__18 : (.code yX4_firstOpen cX4_firstOpen 6 (some .int) : Cond) ∈ wsX7_skip := List.mem_of_getElem? (i := 18) rfl
theorem mw_X7_skip__19 : (.fieldLink RX4 27 "BallPots$Ranks" "groups" "I" : Cond) ∈ wsX7_skip := List.mem_of_getElem? (i := 19) rfl
theorem mw_X7_skip__20 : (.fieldLink RX4 18 "BallPots$Ranks" "having" "[I" : Cond) ∈ wsX7_skip := List.mem_of_getElem? (i := 20) rfl
theorem mw_X7_skip__21 : (.methodLink RX7 69 yX7_skip : Cond) ∈ wsX7_skip := List.mem_of_getElem? (i := 21) rfl
theorem mw_X7_skip__22 : (.instanceMethod yX7_skip : Cond) ∈ wsX7_skip := List.mem_of_getElem? (i := 22) rfl
theorem mw_X7_skip__23 : (.selects RX7 yX7_skip yX7_skip : Cond) ∈ wsX7_skip := List.mem_of_getElem? (i := 23) rfl
theorem mw_X7_skip__24 : (.initialized RX7 : Cond) ∈ wsX7_skip := List.mem_of_getElem? (i := 24) rfl
theorem mw_X7_slotOf__1 : (.fieldLink RX7 25 "BallPots$Spread" "ranks" "LBallPots$Ranks;" : Cond) ∈ wsX7_slotOf := List.mem_of_getElem? (i := 1) rfl
theorem mw_X7_slotOf__2 : (.constant RX7 50 (-1640531535) : Cond) ∈ wsX7_slotOf := List.mem_of_getElem? (i := 2) rfl
theorem mw_X8_allow__1 : (.fieldLink RX8 27 "BallPots$Stage" "plan" "LBallPots$Plan;" : Cond) ∈ wsX8_allow := List.mem_of_getElem? (i := 1) rfl
theorem mw_X8_allow__2 : (.fieldLink RX8 24 "BallPots$Stage" "allowed" "[I" : Cond) ∈ wsX8_allow := List.mem_of_getElem? (i := 2) rfl
theorem mw_X8_allow__3 : (.methodLink RX8 73 yX8_ranksIf : Cond) ∈ wsX8_allow := List.mem_of_getElem? (i := 3) rfl
theorem mw_X8_allow__4 : (.instanceMethod yX8_ranksIf : Cond) ∈ wsX8_allow := List.mem_of_getElem? (i := 4) rfl
theorem mw_X8_allow__5 : (.selects RX8 yX8_ranksIf yX8_ranksIf : Cond) ∈ wsX8_allow := List.mem_of_getElem? (i := 5) rfl
theorem mw_X8_allow__6 : (.initialized RX8 : Cond) ∈ wsX8_allow := List.mem_of_getElem? (i := 6) rfl
theorem mw_X8_allow__7 : (.code yX8_ranksIf cX8_ranksIf 8 (some .int) : Cond) ∈ wsX8_allow := List.mem_of_getElem? (i := 7) rfl
theorem mw_X8_allow__8 : (.fieldLink RX8 31 "BallPots$Stage" "ranks" "LBallPots$Ranks;" : Cond) ∈ wsX8_allow := List.mem_of_getElem? (i := 8) rfl
theorem mw_X8_allow__9 : (.fieldLink RX8 18 "BallPots$Stage" "groupOf" "[I" : Cond) ∈ wsX8_allow := List.mem_of_getElem? (i := 9) rfl
theorem mw_X8_begun__1 : (.fieldLink RX8 27 "BallPots$Stage" "plan" "LBallPots$Plan;" : Cond) ∈ wsX8_begun := List.mem_of_getElem? (i := 1) rfl
theorem mw_X8_begun__2 : (.fieldLink RX8 47 "BallPots$Stage" "out" "I" : Cond) ∈ wsX8_begun := List.mem_of_getElem? (i := 2) rfl
theorem mw_X8_begun__3 : (.methodLink RX8 63 yX3_placeOf : Cond) ∈ wsX8_begun := List.mem_of_getElem? (i := 3) rfl
theorem mw_X8_begun__4 : (.instanceMethod yX3_placeOf : Cond) ∈ wsX8_begun := List.mem_of_getElem? (i := 4) rfl
theorem mw_X8_begun__5 : (.selects RX3 yX3_placeOf yX3_placeOf : Cond) ∈ wsX8_begun := List.mem_of_getElem? (i := 5) rfl
theorem mw_X8_begun__6 : (.initialized RX3 : Cond) ∈ wsX8_begun := List.mem_of_getElem? (i := 6) rfl
theorem mw_X8_begun__7 : (.code yX3_placeOf cX3_placeOf 2 (some .int) : Cond) ∈ wsX8_begun := List.mem_of_getElem? (i := 7) rfl
theorem mw_X8_begun__8 : (.fieldLink RX3 27 "BallPots$Plan" "groups" "I" : Cond) ∈ wsX8_begun := List.mem_of_getElem? (i := 8) rfl
theorem mw_X8_empty__1 : (.fieldLink RX8 47 "BallPots$Stage" "out" "I" : Cond) ∈ wsX8_empty := List.mem_of_getElem? (i := 1) rfl
theorem mw_X8_empty__2 : (.fieldLink RX8 18 "BallPots$Stage" "groupOf" "[I" : Cond) ∈ wsX8_empty := List.mem_of_getElem? (i := 2) rfl
theorem mw_X8_empty__3 : (.methodLink RX8 51 yJ7_fill_53178 : Cond) ∈ wsX8_empty := List.mem_of_getElem? (i := 3) rfl
theorem mw_X8_empty__4 : (.static yJ7_fill_53178 : Cond) ∈ wsX8_empty := List.mem_of_getElem? (i := 4) rfl
theorem mw_X8_empty__5 : (.initialized RJ7 : Cond) ∈ wsX8_empty := List.mem_of_getElem? (i := 5) rfl
theorem mw_X8_empty__6 : (.code yJ7_fill_53178 cJ7_fill_53178 4 none : Cond) ∈ wsX8_empty := List.mem_of_getElem? (i := 6) rfl
theorem mw_X8_fullPots__1 : (.fieldLink RX8 27 "BallPots$Stage" "plan" "LBallPots$Plan;" : Cond) ∈ wsX8_fullPots := List.mem_of_getElem? (i := 1) rfl
theorem mw_X8_fullPots__2 : (.fieldLink RX8 47 "BallPots$Stage" "out" "I" : Cond) ∈ wsX8_fullPots := List.mem_of_getElem? (i := 2) rfl
theorem mw_X8_fullPots__3 : (.methodLink RX8 57 yX3_potOf : Cond) ∈ wsX8_fullPots := List.mem_of_getElem? (i := 3) rfl
theorem mw_X8_fullPots__4 : (.instanceMethod yX3_potOf : Cond) ∈ wsX8_fullPots := List.mem_of_getElem? (i := 4) rfl
theorem mw_X8_fullPots__5 : (.selects RX3 yX3_potOf yX3_potOf : Cond) ∈ wsX8_fullPots := List.mem_of_getElem? (i := 5) rfl
theorem mw_X8_fullPots__6 : (.initialized RX3 : Cond) ∈ wsX8_fullPots := List.mem_of_getElem? (i := 6) rfl
theorem mw_X8_fullPots__7 : (.code yX3_potOf cX3_potOf 2 (some .int) : Cond) ∈ wsX8_fullPots := List.mem_of_getElem? (i := 7) rfl
theorem mw_X8_fullPots__8 : (.fieldLink RX3 27 "BallPots$Plan" "groups" "I" : Cond) ∈ wsX8_fullPots := List.mem_of_getElem? (i := 8) rfl
theorem mw_X8_latest__1 : (.fieldLink RX8 47 "BallPots$Stage" "out" "I" : Cond) ∈ wsX8_latest := List.mem_of_getElem? (i := 1) rfl
theorem mw_X8_latest__2 : (.fieldLink RX8 21 "BallPots$Stage" "balls" "[I" : Cond) ∈ wsX8_latest := List.mem_of_getElem? (i := 2) rfl
theorem mw_X8_placesLeft__1 : (.fieldLink RX8 27 "BallPots$Stage" "plan" "LBallPots$Plan;" : Cond) ∈ wsX8_placesLeft := List.mem_of_getElem? (i := 1) rfl
theorem mw_X8_placesLeft__2 : (.fieldLink RX8 18 "BallPots$Stage" "groupOf" "[I" : Cond) ∈ wsX8_placesLeft := List.mem_of_getElem? (i := 2) rfl
theorem mw_X8_potInTurn__1 : (.fieldLink RX8 47 "BallPots$Stage" "out" "I" : Cond) ∈ wsX8_potInTurn := List.mem_of_getElem? (i := 1) rfl
theorem mw_X8_potInTurn__2 : (.fieldLink RX8 27 "BallPots$Stage" "plan" "LBallPots$Plan;" : Cond) ∈ wsX8_potInTurn := List.mem_of_getElem? (i := 2) rfl
theorem mw_X8_potInTurn__3 : (.fieldLink RX8 9 "BallPots$Stage" "potAt" "[I" : Cond) ∈ wsX8_potInTurn := List.mem_of_getElem? (i := 3) rfl
theorem mw_X8_potInTurn__4 : (.methodLink RX8 69 yX8_fullPots : Cond) ∈ wsX8_potInTurn := List.mem_of_getElem? (i := 4) rfl
theorem mw_X8_potInTurn__5 : (.instanceMethod yX8_fullPots : Cond) ∈ wsX8_potInTurn := List.mem_of_getElem? (i := 5) rfl
theorem mw_X8_potInTurn__6 : (.selects RX8 yX8_fullPots yX8_fullPots : Cond) ∈ wsX8_potInTurn := List.mem_of_getElem? (i := 6) rfl
theorem mw_X8_potInTurn__7 : (.initialized RX8 : Cond) ∈ wsX8_potInTurn := List.mem_of_getElem? (i := 7) rfl
theorem mw_X8_potInTurn__8 : (.code yX8_fullPots cX8_fullPots 1 (some .int) : Cond) ∈ wsX8_potInTurn := List.mem_of_getElem? (i := 8) rfl
theorem mw_X8_potInTurn__9 : (.methodLink RX8 57 yX3_potOf : Cond) ∈ wsX8_potInTurn := List.mem_of_getElem? (i := 9) rfl
theorem mw_X8_potInTurn__10 : (.instanceMethod yX3_potOf : Cond) ∈ wsX8_potInTurn := List.mem_of_getElem? (i := 10) rfl
theorem mw_X8_potInTurn__11 : (.selects RX3 yX3_potOf yX3_potOf : Cond) ∈ wsX8_potInTurn := List.mem_of_getElem? (i := 11) rfl
theorem mw_X8_potInTurn__12 : (.initialized RX3 : Cond) ∈ wsX8_potInTurn := List.mem_of_getElem? (i := 12) rfl
theorem mw_X8_potInTurn__13 : (.code yX3_potOf cX3_potOf 2 (some .int) : Cond) ∈ wsX8_potInTurn := List.mem_of_getElem? (i := 13) rfl
theorem mw_X8_potInTurn__14 : (.fieldLink RX3 27 "BallPots$Plan" "groups" "I" : Cond) ∈ wsX8_potInTurn := List.mem_of_getElem? (i := 14) rfl
theorem mw_X8_prefix__1 : (.fieldLink RX8 31 "BallPots$Stage" "ranks" "LBallPots$Ranks;" : Cond) ∈ wsX8_prefix := rl_wsX8_prefix_r1 _ (List.mem_of_getElem? (i := 0) rfl)
theorem mw_X8_prefix__2 : (.methodLink RX8 69 yX8_fullPots : Cond) ∈ wsX8_prefix := rl_wsX8_prefix_r1 _ (List.mem_of_getElem? (i := 1) rfl)
theorem mw_X8_prefix__3 : (.instanceMethod yX8_fullPots : Cond) ∈ wsX8_prefix := rl_wsX8_prefix_r1 _ (List.mem_of_getElem? (i := 2) rfl)
theorem mw_X8_prefix__4 : (.selects RX8 yX8_fullPots yX8_fullPots : Cond) ∈ wsX8_prefix := rl_wsX8_prefix_r1 _ (List.mem_of_getElem? (i := 3) rfl)
theorem mw_X8_prefix__5 : (.initialized RX8 : Cond) ∈ wsX8_prefix := rl_wsX8_prefix_r1 _ (List.mem_of_getElem? (i := 4) rfl)
theorem mw_X8_prefix__6 : (.code yX8_fullPots cX8_fullPots 1 (some .int) : Cond) ∈ wsX8_prefix := rl_wsX8_prefix_r1 _ (List.mem_of_getElem? (i := 5) rfl)
theorem mw_X8_prefix__7 : (.fieldLink RX8 27 "BallPots$Stage" "plan" "LBallPots$Plan;" : Cond) ∈ wsX8_prefix := rl_wsX8_prefix_r1 _ (List.mem_of_getElem? (i := 6) rfl)
theorem mw_X8_prefix__8 : (.fieldLink RX8 47 "BallPots$Stage" "out" "I" : Cond) ∈ wsX8_prefix := rl_wsX8_prefix_r1 _ (List.mem_of_getElem? (i := 7) rfl)
theorem mw_X8_prefix__9 : (.methodLink RX8 57 yX3_potOf : Cond) ∈ wsX8_prefix := rl_wsX8_prefix_r1 _ (List.mem_of_getElem? (i := 8) rfl)
theorem mw_X8_prefix__10 : (.instanceMethod yX3_potOf : Cond) ∈ wsX8_prefix := rl_wsX8_prefix_r1 _ (List.mem_of_getElem? (i := 9) rfl)
theorem mw_X8_prefix__11 : (.selects RX3 yX3_potOf yX3_potOf : Cond) ∈ wsX8_prefix := rl_wsX8_prefix_r1 _ (List.mem_of_getElem? (i := 10) rfl)
theorem mw_X8_prefix__12 : (.initialized RX3 : Cond) ∈ wsX8_prefix := rl_wsX8_prefix_r1 _ (List.mem_of_getElem? (i := 11) rfl)
theorem mw_X8_prefix__13 : (.code yX3_potOf cX3_potOf 2 (some .int) : Cond) ∈ wsX8_prefix := rl_wsX8_prefix_r1 _ (List.mem_of_getElem? (i := 12) rfl)
theorem mw_X8_prefix__14 : (.fieldLink RX3 27 "BallPots$Plan" "groups" "I" : Cond) ∈ wsX8_prefix := rl_wsX8_prefix_r1 _ (List.mem_of_getElem? (i := 13) rfl)
theorem mw_X8_prefix__15 : (.methodLink RX8 100 yX8_rankAtLevel : Cond) ∈ wsX8_prefix := rl_wsX8_prefix_r1 _ (List.mem_of_getElem? (i := 14) rfl)
theorem mw_X8_prefix__16 : (.instanceMethod yX8_rankAtLevel : Cond) ∈ wsX8_prefix := rl_wsX8_prefix_r1 _ (List.mem_of_getElem? (i := 15) rfl)
theorem mw_X8_prefix__17 : (.selects RX8 yX8_rankAtLevel yX8_rankAtLevel : Cond) ∈ wsX8_prefix := rl_wsX8_prefix_r1 _ (List.mem_of_getElem? (i := 16) rfl)
theorem mw_X8_prefix__18 : (.code yX8_rankAtLevel cX8_rankAtLevel 2 (some .int) : Cond) ∈ wsX8_prefix := rl_wsX8_prefix_r1 _ (List.mem_of_getElem? (i := 17) rfl)
theorem mw_X8_prefix__19 : (.fieldLink RX8 9 "BallPots$Stage" "potAt" "[I" : Cond) ∈ wsX8_prefix := rl_wsX8_prefix_r1 _ (List.mem_of_getElem? (i := 18) rfl)
theorem mw_X8_prefix__20 : (.methodLink RX8 91 yX8_ranksLeft : Cond) ∈ wsX8_prefix := rl_wsX8_prefix_r1 _ (List.mem_of_getElem? (i := 19) rfl)
theorem mw_X8_prefix__21 : (.instanceMethod yX8_ranksLeft : Cond) ∈ wsX8_prefix := rl_wsX8_prefix_r1 _ (List.mem_of_getElem? (i := 20) rfl)
theorem mw_X8_prefix__22 : (.selects RX8 yX8_ranksLeft yX8_ranksLeft : Cond) ∈ wsX8_prefix := rl_wsX8_prefix_r1 _ (List.mem_of_getElem? (i := 21) rfl)
theorem mw_X8_prefix__23 : (.code yX8_ranksLeft cX8_ranksLeft 2 (some .int) : Cond) ∈ wsX8_prefix := rl_wsX8_prefix_r1 _ (List.mem_of_getElem? (i := 22) rfl)
theorem mw_X8_prefix__24 : (.methodLink RX8 73 yX8_ranksIf : Cond) ∈ wsX8_prefix := rl_wsX8_prefix_r1 _ (List.mem_of_getElem? (i := 23) rfl)
theorem mw_X8_prefix__25 : (.instanceMethod yX8_ranksIf : Cond) ∈ wsX8_prefix := rl_wsX8_prefix_r2 _ (List.mem_of_getElem? (i := 0) rfl)
theorem mw_X8_prefix__26 : (.selects RX8 yX8_ranksIf yX8_ranksIf : Cond) ∈ wsX8_prefix := rl_wsX8_prefix_r2 _ (List.mem_of_getElem? (i := 1) rfl)
theorem mw_X8_prefix__27 : (.code yX8_ranksIf cX8_ranksIf 8 (some .int) : Cond) ∈ wsX8_prefix := rl_wsX8_prefix_r2 _ (List.mem_of_getElem? (i := 2) rfl)
theorem mw_X8_prefix__28 : (.fieldLink RX8 18 "BallPots$Stage" "groupOf" "[I" : Cond) ∈ wsX8_prefix := rl_wsX8_prefix_r2 _ (List.mem_of_getElem? (i := 3) rfl)
theorem mw_X8_prefix__29 : (.methodLink RX8 94 yX4_only : Cond) ∈ wsX8_prefix := rl_wsX8_prefix_r2 _ (List.mem_of_getElem? (i := 4) rfl)
theorem mw_X8_prefix__30 : (.static yX4_only : Cond) ∈ wsX8_prefix := rl_wsX8_prefix_r2 _ (List.mem_of_getElem? (i := 5) rfl)
theorem mw_X8_prefix__31 : (.initialized RX4 : Cond) ∈ wsX8_prefix := rl_wsX8_prefix_r2 _ (List.mem_of_getElem? (i := 6) rfl)
theorem mw_X8_prefix__32 : (.code yX4_only cX4_only 1 (some .int) : Cond) ∈ wsX8_prefix := rl_wsX8_prefix_r2 _ (List.mem_of_getElem? (i := 7) rfl)
theorem mw_X8_prefix__33 : (.methodLink RX4 69 yJ6_bitCount_0f7a4 : Cond) ∈ wsX8_prefix := rl_wsX8_prefix_r2 _ (List.mem_of_getElem? (i := 8) rfl)
theorem mw_X8_prefix__34 : (.static yJ6_bitCount_0f7a4 : Cond) ∈ wsX8_prefix := rl_wsX8_prefix_r2 _ (List.mem_of_getElem? (i := 9) rfl)
theorem mw_X8_prefix__35 : (.initialized RJ6 : Cond) ∈ wsX8_prefix := rl_wsX8_prefix_r2 _ (List.mem_of_getElem? (i := 10) rfl)
theorem mw_X8_prefix__36 : (.code yJ6_bitCount_0f7a4 cJ6_bitCount_0f7a4 1 (some .int) : Cond) ∈ wsX8_prefix := rl_wsX8_prefix_r2 _ (List.mem_of_getElem? (i := 11) rfl)
theorem mw_X8_prefix__37 : (.constant RJ6 265 (1431655765) : Cond) ∈ wsX8_prefix := rl_wsX8_prefix_r2 _ (List.mem_of_getElem? (i := 12) rfl)
theorem mw_X8_prefix__38 : (.constant RJ6 266 (858993459) : Cond) ∈ wsX8_prefix := rl_wsX8_prefix_r2 _ (List.mem_of_getElem? (i := 13) rfl)
theorem mw_X8_prefix__39 : (.constant RJ6 267 (252645135) : Cond) ∈ wsX8_prefix := rl_wsX8_prefix_r2 _ (List.mem_of_getElem? (i := 14) rfl)
theorem mw_X8_put__1 : (.fieldLink RX8 47 "BallPots$Stage" "out" "I" : Cond) ∈ wsX8_put := List.mem_of_getElem? (i := 1) rfl
theorem mw_X8_put__2 : (.fieldLink RX8 18 "BallPots$Stage" "groupOf" "[I" : Cond) ∈ wsX8_put := List.mem_of_getElem? (i := 2) rfl
theorem mw_X8_put__3 : (.fieldLink RX8 21 "BallPots$Stage" "balls" "[I" : Cond) ∈ wsX8_put := List.mem_of_getElem? (i := 3) rfl
theorem mw_X8_putInTurn__1 : (.fieldLink RX8 9 "BallPots$Stage" "potAt" "[I" : Cond) ∈ wsX8_putInTurn := List.mem_of_getElem? (i := 1) rfl
theorem mw_X8_putInTurn__2 : (.methodLink RX8 38 arraycopyName : Cond) ∈ wsX8_putInTurn := List.mem_of_getElem? (i := 2) rfl
theorem mw_X8_putInTurn__3 : (.native arraycopyName : Cond) ∈ wsX8_putInTurn := List.mem_of_getElem? (i := 3) rfl
theorem mw_X8_putInTurn__4 : (.static arraycopyName : Cond) ∈ wsX8_putInTurn := List.mem_of_getElem? (i := 4) rfl
theorem mw_X8_putInTurn__5 : (.initialized "java/lang/System" : Cond) ∈ wsX8_putInTurn := List.mem_of_getElem? (i := 5) rfl
theorem mw_X8_putInTurn__6 : (.fieldLink RX8 15 "BallPots$Stage" "groupAt" "[I" : Cond) ∈ wsX8_putInTurn := List.mem_of_getElem? (i := 6) rfl
theorem mw_X8_putInTurn__7 : (.methodLink RX8 44 yX8_empty : Cond) ∈ wsX8_putInTurn := List.mem_of_getElem? (i := 7) rfl
theorem mw_X8_putInTurn__8 : (.instanceMethod yX8_empty : Cond) ∈ wsX8_putInTurn := List.mem_of_getElem? (i := 8) rfl
theorem mw_X8_putInTurn__9 : (.selects RX8 yX8_empty yX8_empty : Cond) ∈ wsX8_putInTurn := List.mem_of_getElem? (i := 9) rfl
theorem mw_X8_putInTurn__10 : (.initialized RX8 : Cond) ∈ wsX8_putInTurn := List.mem_of_getElem? (i := 10) rfl
theorem mw_X8_putInTurn__11 : (.code yX8_empty cX8_empty 1 none : Cond) ∈ wsX8_putInTurn := List.mem_of_getElem? (i := 11) rfl
theorem mw_X8_putInTurn__12 : (.fieldLink RX8 47 "BallPots$Stage" "out" "I" : Cond) ∈ wsX8_putInTurn := List.mem_of_getElem? (i := 12) rfl
theorem mw_X8_putInTurn__13 : (.fieldLink RX8 18 "BallPots$Stage" "groupOf" "[I" : Cond) ∈ wsX8_putInTurn := List.mem_of_getElem? (i := 13) rfl
theorem mw_X8_putInTurn__14 : (.methodLink RX8 51 yJ7_fill_53178 : Cond) ∈ wsX8_putInTurn := List.mem_of_getElem? (i := 14) rfl
theorem mw_X8_putInTurn__15 : (.static yJ7_fill_53178 : Cond) ∈ wsX8_putInTurn := List.mem_of_getElem? (i := 15) rfl
theorem mw_X8_putInTurn__16 : (.initialized RJ7 : Cond) ∈ wsX8_putInTurn := List.mem_of_getElem? (i := 16) rfl
theorem mw_X8_putInTurn__17 : (.code yJ7_fill_53178 cJ7_fill_53178 4 none : Cond) ∈ wsX8_putInTurn := List.mem_of_getElem? (i := 17) rfl
theorem mw_X8_rankAtLevel__1 : (.fieldLink RX8 9 "BallPots$Stage" "potAt" "[I" : Cond) ∈ wsX8_rankAtLevel := List.mem_of_getElem? (i := 1) rfl
theorem mw_X8_rankAtLevel__2 : (.methodLink RX8 91 yX8_ranksLeft : Cond) ∈ wsX8_rankAtLevel := List.mem_of_getElem? (i := 2) rfl
theorem mw_X8_rankAtLevel__3 : (.instanceMethod yX8_ranksLeft : Cond) ∈ wsX8_rankAtLevel := List.mem_of_getElem? (i := 3) rfl
theorem mw_X8_rankAtLevel__4 : (.selects RX8 yX8_ranksLeft yX8_ranksLeft : Cond) ∈ wsX8_rankAtLevel := List.mem_of_getElem? (i := 4) rfl
theorem mw_X8_rankAtLevel__5 : (.initialized RX8 : Cond) ∈ wsX8_rankAtLevel := List.mem_of_getElem? (i := 5) rfl
theorem mw_X8_rankAtLevel__6 : (.code yX8_ranksLeft cX8_ranksLeft 2 (some .int) : Cond) ∈ wsX8_rankAtLevel := List.mem_of_getElem? (i := 6) rfl
theorem mw_X8_rankAtLevel__7 : (.methodLink RX8 73 yX8_ranksIf : Cond) ∈ wsX8_rankAtLevel := List.mem_of_getElem? (i := 7) rfl
theorem mw_X8_rankAtLevel__8 : (.instanceMethod yX8_ranksIf : Cond) ∈ wsX8_rankAtLevel := List.mem_of_getElem? (i := 8) rfl
theorem mw_X8_rankAtLevel__9 : (.selects RX8 yX8_ranksIf yX8_ranksIf : Cond) ∈ wsX8_rankAtLevel := List.mem_of_getElem? (i := 9) rfl
theorem mw_X8_rankAtLevel__10 : (.code yX8_ranksIf cX8_ranksIf 8 (some .int) : Cond) ∈ wsX8_rankAtLevel := List.mem_of_getElem? (i := 10) rfl
theorem mw_X8_rankAtLevel__11 : (.fieldLink RX8 31 "BallPots$Stage" "ranks" "LBallPots$Ranks;" : Cond) ∈ wsX8_rankAtLevel := List.mem_of_getElem? (i := 11) rfl
theorem mw_X8_rankAtLevel__12 : (.fieldLink RX8 27 "BallPots$Stage" "plan" "LBallPots$Plan;" : Cond) ∈ wsX8_rankAtLevel := List.mem_of_getElem? (i := 12) rfl
theorem mw_X8_rankAtLevel__13 : (.fieldLink RX8 18 "BallPots$Stage" "groupOf" "[I" : Cond) ∈ wsX8_rankAtLevel := List.mem_of_getElem? (i := 13) rfl
theorem mw_X8_rankAtLevel__14 : (.methodLink RX8 94 yX4_only : Cond) ∈ wsX8_rankAtLevel := List.mem_of_getElem? (i := 14) rfl
theorem mw_X8_rankAtLevel__15 : (.static yX4_only : Cond) ∈ wsX8_rankAtLevel := List.mem_of_getElem? (i := 15) rfl
theorem mw_X8_rankAtLevel__16 : (.initialized RX4 : Cond) ∈ wsX8_rankAtLevel := List.mem_of_getElem? (i := 16) rfl
theorem mw_X8_rankAtLevel__17 : (.code yX4_only cX4_only 1 (some .int) : Cond) ∈ wsX8_rankAtLevel := List.mem_of_getElem? (i := 17) rfl
theorem mw_X8_rankAtLevel__18 : (.methodLink RX4 69 yJ6_bitCount_0f7a4 : Cond) ∈ wsX8_rankAtLevel := List.mem_of_getElem? (i := 18) rfl
theorem mw_X8_rankAtLevel__19 : (.static yJ6_bitCount_0f7a4 : Cond) ∈ wsX8_rankAtLevel := List.mem_of_getElem? (i := 19) rfl
theorem mw_X8_rankAtLevel__20 : (.initialized RJ6 : Cond) ∈ wsX8_rankAtLevel := List.mem_of_getElem? (i := 20) rfl
theorem mw_X8_rankAtLevel__21 : (.code yJ6_bitCount_0f7a4 cJ6_bitCount_0f7a4 1 (some .int) : Cond) ∈ wsX8_rankAtLevel := List.mem_of_getElem? (i := 21) rfl
theorem mw_X8_rankAtLevel__22 : (.constant RJ6 265 (1431655765) : Cond) ∈ wsX8_rankAtLevel := List.mem_of_getElem? (i := 22) rfl
theorem mw_X8_rankAtLevel__23 : (.constant RJ6 266 (858993459) : Cond) ∈ wsX8_rankAtLevel := List.mem_of_getElem? (i := 23) rfl
theorem mw_X8_rankAtLevel__24 : (.constant RJ6 267 (252645135) : Cond) ∈ wsX8_rankAtLevel := List.mem_of_getElem? (i := 24) rfl
theorem mw_X8_ranksIf__1 : (.fieldLink RX8 31 "BallPots$Stage" "ranks" "LBallPots$Ranks;" : Cond) ∈ wsX8_ranksIf := List.mem_of_getElem? (i := 1) rfl
theorem mw_X8_ranksIf__2 : (.fieldLink RX8 27 "BallPots$Stage" "plan" "LBallPots$Plan;" : Cond) ∈ wsX8_ranksIf := List.mem_of_getElem? (i := 2) rfl
theorem mw_X8_ranksIf__3 : (.fieldLink RX8 18 "BallPots$Stage" "groupOf" "[I" : Cond) ∈ wsX8_ranksIf := List.mem_of_getElem? (i := 3) rfl
theorem mw_X8_ranksLeft__1 : (.methodLink RX8 73 yX8_ranksIf : Cond) ∈ wsX8_ranksLeft := List.mem_of_getElem? (i := 1) rfl
theorem mw_X8_ranksLeft__2 : (.instanceMethod yX8_ranksIf : Cond) ∈ wsX8_ranksLeft := List.mem_of_getElem? (i := 2) rfl
theorem mw_X8_ranksLeft__3 : (.selects RX8 yX8_ranksIf yX8_ranksIf : Cond) ∈ wsX8_ranksLeft := List.mem_of_getElem? (i := 3) rfl
theorem mw_X8_ranksLeft__4 : (.initialized RX8 : Cond) ∈ wsX8_ranksLeft := List.mem_of_getElem? (i := 4) rfl
theorem mw_X8_ranksLeft__5 : (.code yX8_ranksIf cX8_ranksIf 8 (some .int) : Cond) ∈ wsX8_ranksLeft := List.mem_of_getElem? (i := 5) rfl
theorem mw_X8_ranksLeft__6 : (.fieldLink RX8 31 "BallPots$Stage" "ranks" "LBallPots$Ranks;" : Cond) ∈ wsX8_ranksLeft := List.mem_of_getElem? (i := 6) rfl
theorem mw_X8_ranksLeft__7 : (.fieldLink RX8 27 "BallPots$Stage" "plan" "LBallPots$Plan;" : Cond) ∈ wsX8_ranksLeft := List.mem_of_getElem? (i := 7) rfl
theorem mw_X8_ranksLeft__8 : (.fieldLink RX8 18 "BallPots$Stage" "groupOf" "[I" : Cond) ∈ wsX8_ranksLeft := List.mem_of_getElem? (i := 8) rfl
theorem mw_X8_reason__1 : (.fieldLink RX8 47 "BallPots$Stage" "out" "I" : Cond) ∈ wsX8_reason := List.mem_of_getElem? (i := 1) rfl
theorem mw_X8_reason__2 : (.fieldLink RX8 18 "BallPots$Stage" "groupOf" "[I" : Cond) ∈ wsX8_reason := List.mem_of_getElem? (i := 2) rfl
theorem mw_X8_reason__3 : (.fieldLink RX8 27 "BallPots$Stage" "plan" "LBallPots$Plan;" : Cond) ∈ wsX8_reason := List.mem_of_getElem? (i := 3) rfl
theorem mw_X8_reason__4 : (.fieldLink RX8 15 "BallPots$Stage" "groupAt" "[I" : Cond) ∈ wsX8_reason := List.mem_of_getElem? (i := 4) rfl
theorem mw_X8_reason__5 : (.methodLink RX8 103 yX8_latest : Cond) ∈ wsX8_reason := List.mem_of_getElem? (i := 5) rfl
theorem mw_X8_reason__6 : (.instanceMethod yX8_latest : Cond) ∈ wsX8_reason := List.mem_of_getElem? (i := 6) rfl
theorem mw_X8_reason__7 : (.selects RX8 yX8_latest yX8_latest : Cond) ∈ wsX8_reason := List.mem_of_getElem? (i := 7) rfl
theorem mw_X8_reason__8 : (.initialized RX8 : Cond) ∈ wsX8_reason := List.mem_of_getElem? (i := 8) rfl
theorem mw_X8_reason__9 : (.code yX8_latest cX8_latest 1 (some .int) : Cond) ∈ wsX8_reason := List.mem_of_getElem? (i := 9) rfl
theorem mw_X8_reason__10 : (.fieldLink RX8 21 "BallPots$Stage" "balls" "[I" : Cond) ∈ wsX8_reason := List.mem_of_getElem? (i := 10) rfl
theorem mw_X8_reason__11 : (.methodLink RX8 57 yX3_potOf : Cond) ∈ wsX8_reason := List.mem_of_getElem? (i := 11) rfl
theorem mw_X8_reason__12 : (.instanceMethod yX3_potOf : Cond) ∈ wsX8_reason := List.mem_of_getElem? (i := 12) rfl
theorem mw_X8_reason__13 : (.selects RX3 yX3_potOf yX3_potOf : Cond) ∈ wsX8_reason := List.mem_of_getElem? (i := 13) rfl
theorem mw_X8_reason__14 : (.initialized RX3 : Cond) ∈ wsX8_reason := List.mem_of_getElem? (i := 14) rfl
theorem mw_X8_reason__15 : (.code yX3_potOf cX3_potOf 2 (some .int) : Cond) ∈ wsX8_reason := List.mem_of_getElem? (i := 15) rfl
theorem mw_X8_reason__16 : (.fieldLink RX3 27 "BallPots$Plan" "groups" "I" : Cond) ∈ wsX8_reason := List.mem_of_getElem? (i := 16) rfl
theorem mw_X8_rowsLeft__1 : (.fieldLink RX8 27 "BallPots$Stage" "plan" "LBallPots$Plan;" : Cond) ∈ wsX8_rowsLeft := List.mem_of_getElem? (i := 1) rfl
theorem mw_X8_rowsLeft__2 : (.methodLink RX8 69 yX8_fullPots : Cond) ∈ wsX8_rowsLeft := List.mem_of_getElem? (i := 2) rfl
theorem mw_X8_rowsLeft__3 : (.instanceMethod yX8_fullPots : Cond) ∈ wsX8_rowsLeft := List.mem_of_getElem? (i := 3) rfl
theorem mw_X8_rowsLeft__4 : (.selects RX8 yX8_fullPots yX8_fullPots : Cond) ∈ wsX8_rowsLeft := List.mem_of_getElem? (i := 4) rfl
theorem mw_X8_rowsLeft__5 : (.initialized RX8 : Cond) ∈ wsX8_rowsLeft := List.mem_of_getElem? (i := 5) rfl
theorem mw_X8_rowsLeft__6 : (.code yX8_fullPots cX8_fullPots 1 (some .int) : Cond) ∈ wsX8_rowsLeft := List.mem_of_getElem? (i := 6) rfl
theorem mw_X8_rowsLeft__7 : (.fieldLink RX8 47 "BallPots$Stage" "out" "I" : Cond) ∈ wsX8_rowsLeft := List.mem_of_getElem? (i := 7) rfl
theorem mw_X8_rowsLeft__8 : (.methodLink RX8 57 yX3_potOf : Cond) ∈ wsX8_rowsLeft := List.mem_of_getElem? (i := 8) rfl
theorem mw_X8_rowsLeft__9 : (.instanceMethod yX3_potOf : Cond) ∈ wsX8_rowsLeft := List.mem_of_getElem? (i := 9) rfl
theorem mw_X8_rowsLeft__10 : (.selects RX3 yX3_potOf yX3_potOf : Cond) ∈ wsX8_rowsLeft := List.mem_of_getElem? (i := 10) rfl
theorem mw_X8_rowsLeft__11 : (.initialized RX3 : Cond) ∈ wsX8_rowsLeft := List.mem_of_getElem? (i := 11) rfl
theorem mw_X8_rowsLeft__12 : (.code yX3_potOf cX3_potOf 2 (some .int) : Cond) ∈ wsX8_rowsLeft := List.mem_of_getElem? (i := 12) rfl
theorem mw_X8_rowsLeft__13 : (.fieldLink RX3 27 "BallPots$Plan" "groups" "I" : Cond) ∈ wsX8_rowsLeft := List.mem_of_getElem? (i := 13) rfl
theorem mw_X8_rowsLeft__14 : (.methodLink RX8 106 yX8_begun : Cond) ∈ wsX8_rowsLeft := List.mem_of_getElem? (i := 14) rfl
theorem mw_X8_rowsLeft__15 : (.instanceMethod yX8_begun : Cond) ∈ wsX8_rowsLeft := List.mem_of_getElem? (i := 15) rfl
theorem mw_X8_rowsLeft__16 : (.selects RX8 yX8_begun yX8_begun : Cond) ∈ wsX8_rowsLeft := List.mem_of_getElem? (i := 16) rfl
theorem mw_X8_rowsLeft__17 : (.code yX8_begun cX8_begun 1 (some .int) : Cond) ∈ wsX8_rowsLeft := List.mem_of_getElem? (i := 17) rfl
theorem mw_X8_rowsLeft__18 : (.methodLink RX8 63 yX3_placeOf : Cond) ∈ wsX8_rowsLeft := List.mem_of_getElem? (i := 18) rfl
theorem mw_X8_rowsLeft__19 : (.instanceMethod yX3_placeOf : Cond) ∈ wsX8_rowsLeft := List.mem_of_getElem? (i := 19) rfl
theorem mw_X8_rowsLeft__20 : (.selects RX3 yX3_placeOf yX3_placeOf : Cond) ∈ wsX8_rowsLeft := List.mem_of_getElem? (i := 20) rfl
theorem mw_X8_rowsLeft__21 : (.code yX3_placeOf cX3_placeOf 2 (some .int) : Cond) ∈ wsX8_rowsLeft := List.mem_of_getElem? (i := 21) rfl
theorem mw_X8_takeBack__1 : (.fieldLink RX8 47 "BallPots$Stage" "out" "I" : Cond) ∈ wsX8_takeBack := List.mem_of_getElem? (i := 1) rfl
theorem mw_X8_takeBack__2 : (.fieldLink RX8 18 "BallPots$Stage" "groupOf" "[I" : Cond) ∈ wsX8_takeBack := List.mem_of_getElem? (i := 2) rfl
theorem mw_X8_takeBack__3 : (.fieldLink RX8 21 "BallPots$Stage" "balls" "[I" : Cond) ∈ wsX8_takeBack := List.mem_of_getElem? (i := 3) rfl
theorem mw_X9_allRows__1 : (.fieldLink RX9 22 "BallPots$Swaps" "draws" "LBallPots$Draws;" : Cond) ∈ wsX9_allRows := List.mem_of_getElem? (i := 1) rfl
theorem mw_X9_allRows__2 : (.fieldLink RX9 32 "BallPots$Swaps" "ranks" "LBallPots$Ranks;" : Cond) ∈ wsX9_allRows := List.mem_of_getElem? (i := 2) rfl
theorem mw_X9_clearRows__1 : (.fieldLink RX9 9 "BallPots$Swaps" "rows" "[I" : Cond) ∈ wsX9_clearRows := List.mem_of_getElem? (i := 1) rfl
theorem mw_X9_clearRows__2 : (.fieldLink RX9 22 "BallPots$Swaps" "draws" "LBallPots$Draws;" : Cond) ∈ wsX9_clearRows := List.mem_of_getElem? (i := 2) rfl
theorem mw_X9_clearRows__3 : (.arrayClass .int : Cond) ∈ wsX9_clearRows := List.mem_of_getElem? (i := 3) rfl
theorem mw_X9_clearRows__4 : (.fieldLink RX9 15 "BallPots$Swaps" "other" "[I" : Cond) ∈ wsX9_clearRows := List.mem_of_getElem? (i := 4) rfl
theorem mw_X9_clearRows__5 : (.fieldLink RX9 18 "BallPots$Swaps" "done" "I" : Cond) ∈ wsX9_clearRows := List.mem_of_getElem? (i := 5) rfl
theorem mw_X9_clearRows__6 : (.methodLink RX9 52 yJ7_fill_fda19 : Cond) ∈ wsX9_clearRows := List.mem_of_getElem? (i := 6) rfl
theorem mw_X9_clearRows__7 : (.static yJ7_fill_fda19 : Cond) ∈ wsX9_clearRows := List.mem_of_getElem? (i := 7) rfl
theorem mw_X9_clearRows__8 : (.initialized RJ7 : Cond) ∈ wsX9_clearRows := List.mem_of_getElem? (i := 8) rfl
theorem mw_X9_clearRows__9 : (.code yJ7_fill_fda19 cJ7_fill_fda19 5 none : Cond) ∈ wsX9_clearRows := List.mem_of_getElem? (i := 9) rfl
theorem mw_X9_clearRows__10 : (.methodLink RJ7 13 yJ7_rangeCheck_23922 : Cond) ∈ wsX9_clearRows := List.mem_of_getElem? (i := 10) rfl
theorem mw_X9_clearRows__11 : (.static yJ7_rangeCheck_23922 : Cond) ∈ wsX9_clearRows := List.mem_of_getElem? (i := 11) rfl
theorem mw_X9_clearRows__12 : (.code yJ7_rangeCheck_23922 cJ7_rangeCheck_23922 3 none : Cond) ∈ wsX9_clearRows := List.mem_of_getElem? (i := 12) rfl
theorem mw_X9_clearRows__13 : (.classLink RJ7 68 RJx00060 : Cond) ∈ wsX9_clearRows := List.mem_of_getElem? (i := 13) rfl
theorem mw_X9_clearRows__14 : (.instantiable RJx00060 6 : Cond) ∈ wsX9_clearRows := List.mem_of_getElem? (i := 14) rfl
theorem mw_X9_clearRows__15 : (.initialized RJx00060 : Cond) ∈ wsX9_clearRows := List.mem_of_getElem? (i := 15) rfl
theorem mw_X9_findParts__1 : (.fieldLink RX9 33 "BallPots$Swaps" "partsFresh" "Z" : Cond) ∈ wsX9_findParts := rl_wsX9_findParts_r1 _ (List.mem_of_getElem? (i := 0) rfl)
theorem mw_X9_findParts__2 : (.fieldLink RX9 40 "BallPots$Swaps" "manyParts" "I" : Cond) ∈ wsX9_findParts := rl_wsX9_findParts_r1 _ (List.mem_of_getElem? (i := 1) rfl)
theorem mw_X9_findParts__3 : (.fieldLink RX9 43 "BallPots$Swaps" "firstPart" "I" : Cond) ∈ wsX9_findParts := rl_wsX9_findParts_r1 _ (List.mem_of_getElem? (i := 2) rfl)
theorem mw_X9_findParts__4 : (.fieldLink RX9 46 "BallPots$Swaps" "greatestPart" "I" : Cond) ∈ wsX9_findParts := rl_wsX9_findParts_r1 _ (List.mem_of_getElem? (i := 3) rfl)
theorem mw_X9_findParts__5 : (.fieldLink RX9 61 "BallPots$Swaps" "queued" "I" : Cond) ∈ wsX9_findParts := rl_wsX9_findParts_r1 _ (List.mem_of_getElem? (i := 4) rfl)
theorem mw_X9_findParts__6 : (.fieldLink RX9 22 "BallPots$Swaps" "draws" "LBallPots$Draws;" : Cond) ∈ wsX9_findParts := rl_wsX9_findParts_r1 _ (List.mem_of_getElem? (i := 5) rfl)
theorem mw_X9_findParts__7 : (.fieldLink RX9 9 "BallPots$Swaps" "rows" "[I" : Cond) ∈ wsX9_findParts := rl_wsX9_findParts_r1 _ (List.mem_of_getElem? (i := 6) rfl)
theorem mw_X9_findParts__8 : (.methodLink RX9 74 Lib.Math.max.name : Cond) ∈ wsX9_findParts := rl_wsX9_findParts_r1 _ (List.mem_of_getElem? (i := 7) rfl)
theorem mw_X9_findParts__9 : (.static Lib.Math.max.name : Cond) ∈ wsX9_findParts := rl_wsX9_findParts_r1 _ (List.mem_of_getElem? (i := 8) rfl)
theorem mw_X9_findParts__10 : (.initialized "java/lang/Math" : Cond) ∈ wsX9_findParts := rl_wsX9_findParts_r1 _ (List.mem_of_getElem? (i := 9) rfl)
theorem mw_X9_findParts__11 : (.code Lib.Math.max.name Lib.Math.max.code 2 (some .int) : Cond) ∈ wsX9_findParts := rl_wsX9_findParts_r1 _ (List.mem_of_getElem? (i := 10) rfl)
theorem mw_X9_findParts__12 : (.methodLink RX9 58 yX9_clearRows : Cond) ∈ wsX9_findParts := rl_wsX9_findParts_r1 _ (List.mem_of_getElem? (i := 11) rfl)
theorem mw_X9_findParts__13 : (.instanceMethod yX9_clearRows : Cond) ∈ wsX9_findParts := rl_wsX9_findParts_r1 _ (List.mem_of_getElem? (i := 12) rfl)
theorem mw_X9_findParts__14 : (.selects RX9 yX9_clearRows yX9_clearRows : Cond) ∈ wsX9_findParts := rl_wsX9_findParts_r1 _ (List.mem_of_getElem? (i := 13) rfl)
theorem mw_X9_findParts__15 : (.initialized RX9 : Cond) ∈ wsX9_findParts := rl_wsX9_findParts_r1 _ (List.mem_of_getElem? (i := 14) rfl)
theorem mw_X9_findParts__16 : (.code yX9_clearRows cX9_clearRows 1 none : Cond) ∈ wsX9_findParts := rl_wsX9_findParts_r1 _ (List.mem_of_getElem? (i := 15) rfl)
theorem mw_X9_findParts__17 : (.arrayClass .int : Cond) ∈ wsX9_findParts := rl_wsX9_findParts_r1 _ (List.mem_of_getElem? (i := 16) rfl)
theorem mw_X9_findParts__18 : (.fieldLink RX9 15 "BallPots$Swaps" "other" "[I" : Cond) ∈ wsX9_findParts := rl_wsX9_findParts_r1 _ (List.mem_of_getElem? (i := 17) rfl)
theorem mw_X9_findParts__19 : (.fieldLink RX9 18 "BallPots$Swaps" "done" "I" : Cond) ∈ wsX9_findParts := rl_wsX9_findParts_r1 _ (List.mem_of_getElem? (i := 18) rfl)
theorem mw_X9_findParts__20 : (.methodLink RX9 52 yJ7_fill_fda19 : Cond) ∈ wsX9_findParts := rl_wsX9_findParts_r1 _ (List.mem_of_getElem? (i := 19) rfl)
theorem mw_X9_findParts__21 : (.static yJ7_fill_fda19 : Cond) ∈ wsX9_findParts := rl_wsX9_findParts_r1 _ (List.mem_of_getElem? (i := 20) rfl)
theorem mw_X9_findParts__22 : (.initialized RJ7 : Cond) ∈ wsX9_findParts := rl_wsX9_findParts_r1 _ (List.mem_of_getElem? (i := 21) rfl)
theorem mw_X9_findParts__23 : (.code yJ7_fill_fda19 cJ7_fill_fda19 5 none : Cond) ∈ wsX9_findParts := rl_wsX9_findParts_r1 _ (List.mem_of_getElem? (i := 22) rfl)
theorem mw_X9_findParts__24 : (.methodLink RJ7 13 yJ7_rangeCheck_23922 : Cond) ∈ wsX9_findParts := rl_wsX9_findParts_r1 _ (List.mem_of_getElem? (i := 23) rfl)
theorem mw_X9_findParts__25 : (.static yJ7_rangeCheck_23922 : Cond) ∈ wsX9_findParts := rl_wsX9_findParts_r2 _ (List.mem_of_getElem? (i := 0) rfl)
theorem mw_X9_findParts__26 : (.code yJ7_rangeCheck_23922 cJ7_rangeCheck_23922 3 none : Cond) ∈ wsX9_findParts := rl_wsX9_findParts_r2 _ (List.mem_of_getElem? (i := 1) rfl)
theorem mw_X9_findParts__27 : (.classLink RJ7 68 RJx00060 : Cond) ∈ wsX9_findParts := rl_wsX9_findParts_r2 _ (List.mem_of_getElem? (i := 2) rfl)
theorem mw_X9_findParts__28 : (.instantiable RJx00060 6 : Cond) ∈ wsX9_findParts := rl_wsX9_findParts_r2 _ (List.mem_of_getElem? (i := 3) rfl)
theorem mw_X9_findParts__29 : (.initialized RJx00060 : Cond) ∈ wsX9_findParts := rl_wsX9_findParts_r2 _ (List.mem_of_getElem? (i := 4) rfl)
theorem mw_X9_findParts__30 : (.methodLink RX9 70 yX9_sizeOfPart : Cond) ∈ wsX9_findParts := rl_wsX9_findParts_r2 _ (List.mem_of_getElem? (i := 5) rfl)
theorem mw_X9_findParts__31 : (.instanceMethod yX9_sizeOfPart : Cond) ∈ wsX9_findParts := rl_wsX9_findParts_r2 _ (List.mem_of_getElem? (i := 6) rfl)
theorem mw_X9_findParts__32 : (.selects RX9 yX9_sizeOfPart yX9_sizeOfPart : Cond) ∈ wsX9_findParts := rl_wsX9_findParts_r2 _ (List.mem_of_getElem? (i := 7) rfl)
theorem mw_X9_findParts__33 : (.code yX9_sizeOfPart cX9_sizeOfPart 4 (some .int) : Cond) ∈ wsX9_findParts := rl_wsX9_findParts_r2 _ (List.mem_of_getElem? (i := 8) rfl)
theorem mw_X9_findParts__34 : (.methodLink RX9 80 yX9_meet : Cond) ∈ wsX9_findParts := rl_wsX9_findParts_r2 _ (List.mem_of_getElem? (i := 9) rfl)
theorem mw_X9_findParts__35 : (.instanceMethod yX9_meet : Cond) ∈ wsX9_findParts := rl_wsX9_findParts_r2 _ (List.mem_of_getElem? (i := 10) rfl)
theorem mw_X9_findParts__36 : (.selects RX9 yX9_meet yX9_meet : Cond) ∈ wsX9_findParts := rl_wsX9_findParts_r2 _ (List.mem_of_getElem? (i := 11) rfl)
theorem mw_X9_findParts__37 : (.code yX9_meet cX9_meet 2 none : Cond) ∈ wsX9_findParts := rl_wsX9_findParts_r2 _ (List.mem_of_getElem? (i := 12) rfl)
theorem mw_X9_findParts__38 : (.methodLink RX9 84 yX9_meetSwapped : Cond) ∈ wsX9_findParts := rl_wsX9_findParts_r2 _ (List.mem_of_getElem? (i := 13) rfl)
theorem mw_X9_findParts__39 : (.instanceMethod yX9_meetSwapped : Cond) ∈ wsX9_findParts := rl_wsX9_findParts_r2 _ (List.mem_of_getElem? (i := 14) rfl)
theorem mw_X9_findParts__40 : (.selects RX9 yX9_meetSwapped yX9_meetSwapped : Cond) ∈ wsX9_findParts := rl_wsX9_findParts_r2 _ (List.mem_of_getElem? (i := 15) rfl)
theorem mw_X9_findParts__41 : (.code yX9_meetSwapped cX9_meetSwapped 8 none : Cond) ∈ wsX9_findParts := rl_wsX9_findParts_r2 _ (List.mem_of_getElem? (i := 16) rfl)
theorem mw_X9_findParts__42 : (.fieldLink RX9 32 "BallPots$Swaps" "ranks" "LBallPots$Ranks;" : Cond) ∈ wsX9_findParts := rl_wsX9_findParts_r2 _ (List.mem_of_getElem? (i := 17) rfl)
theorem mw_X9_findParts__43 : (.methodLink RX9 99 yX2_rankIn : Cond) ∈ wsX9_findParts := rl_wsX9_findParts_r2 _ (List.mem_of_getElem? (i := 18) rfl)
theorem mw_X9_findParts__44 : (.instanceMethod yX2_rankIn : Cond) ∈ wsX9_findParts := rl_wsX9_findParts_r2 _ (List.mem_of_getElem? (i := 19) rfl)
theorem mw_X9_findParts__45 : (.selects RX2 yX2_rankIn yX2_rankIn : Cond) ∈ wsX9_findParts := rl_wsX9_findParts_r2 _ (List.mem_of_getElem? (i := 20) rfl)
theorem mw_X9_findParts__46 : (.initialized RX2 : Cond) ∈ wsX9_findParts := rl_wsX9_findParts_r2 _ (List.mem_of_getElem? (i := 21) rfl)
theorem mw_X9_findParts__47 : (.code yX2_rankIn cX2_rankIn 5 (some .int) : Cond) ∈ wsX9_findParts := rl_wsX9_findParts_r2 _ (List.mem_of_getElem? (i := 22) rfl)
theorem mw_X9_findParts__48 : (.fieldLink RX2 9 "BallPots$Draws" "step" "[I" : Cond) ∈ wsX9_findParts := rl_wsX9_findParts_r2 _ (List.mem_of_getElem? (i := 23) rfl)
theorem mw_X9_findParts__49 : (.fieldLink RX2 34 "BallPots$Draws" "ranks" "LBallPots$Ranks;" : Cond) ∈ wsX9_findParts := rl_wsX9_findParts_r3 _ (List.mem_of_getElem? (i := 0) rfl)
theorem mw_X9_forget__1 : (.fieldLink RX9 18 "BallPots$Swaps" "done" "I" : Cond) ∈ wsX9_forget := List.mem_of_getElem? (i := 1) rfl
theorem mw_X9_forget__2 : (.fieldLink RX9 33 "BallPots$Swaps" "partsFresh" "Z" : Cond) ∈ wsX9_forget := List.mem_of_getElem? (i := 2) rfl
theorem mw_X9_howManyParts__1 : (.fieldLink RX9 40 "BallPots$Swaps" "manyParts" "I" : Cond) ∈ wsX9_howManyParts := rl_wsX9_howManyParts_r1 _ (List.mem_of_getElem? (i := 0) rfl)
theorem mw_X9_howManyParts__2 : (.methodLink RX9 37 yX9_findParts : Cond) ∈ wsX9_howManyParts := rl_wsX9_howManyParts_r1 _ (List.mem_of_getElem? (i := 1) rfl)
theorem mw_X9_howManyParts__3 : (.instanceMethod yX9_findParts : Cond) ∈ wsX9_howManyParts := rl_wsX9_howManyParts_r1 _ (List.mem_of_getElem? (i := 2) rfl)
theorem mw_X9_howManyParts__4 : (.selects RX9 yX9_findParts yX9_findParts : Cond) ∈ wsX9_howManyParts := rl_wsX9_howManyParts_r1 _ (List.mem_of_getElem? (i := 3) rfl)
theorem mw_X9_howManyParts__5 : (.initialized RX9 : Cond) ∈ wsX9_howManyParts := rl_wsX9_howManyParts_r1 _ (List.mem_of_getElem? (i := 4) rfl)
theorem mw_X9_howManyParts__6 : (.code yX9_findParts cX9_findParts 3 none : Cond) ∈ wsX9_howManyParts := rl_wsX9_howManyParts_r1 _ (List.mem_of_getElem? (i := 5) rfl)
theorem mw_X9_howManyParts__7 : (.fieldLink RX9 33 "BallPots$Swaps" "partsFresh" "Z" : Cond) ∈ wsX9_howManyParts := rl_wsX9_howManyParts_r1 _ (List.mem_of_getElem? (i := 6) rfl)
theorem mw_X9_howManyParts__8 : (.fieldLink RX9 43 "BallPots$Swaps" "firstPart" "I" : Cond) ∈ wsX9_howManyParts := rl_wsX9_howManyParts_r1 _ (List.mem_of_getElem? (i := 7) rfl)
theorem mw_X9_howManyParts__9 : (.fieldLink RX9 46 "BallPots$Swaps" "greatestPart" "I" : Cond) ∈ wsX9_howManyParts := rl_wsX9_howManyParts_r1 _ (List.mem_of_getElem? (i := 8) rfl)
theorem mw_X9_howManyParts__10 : (.fieldLink RX9 61 "BallPots$Swaps" "queued" "I" : Cond) ∈ wsX9_howManyParts := rl_wsX9_howManyParts_r1 _ (List.mem_of_getElem? (i := 9) rfl)
theorem mw_X9_howManyParts__11 : (.fieldLink RX9 22 "BallPots$Swaps" "draws" "LBallPots$Draws;" : Cond) ∈ wsX9_howManyParts := rl_wsX9_howManyParts_r1 _ (List.mem_of_getElem? (i := 10) rfl)
theorem mw_X9_howManyParts__12 : (.fieldLink RX9 9 "BallPots$Swaps" "rows" "[I" : Cond) ∈ wsX9_howManyParts := rl_wsX9_howManyParts_r1 _ (List.mem_of_getElem? (i := 11) rfl)
theorem mw_X9_howManyParts__13 : (.methodLink RX9 74 Lib.Math.max.name : Cond) ∈ wsX9_howManyParts := rl_wsX9_howManyParts_r1 _ (List.mem_of_getElem? (i := 12) rfl)
theorem mw_X9_howManyParts__14 : (.static Lib.Math.max.name : Cond) ∈ wsX9_howManyParts := rl_wsX9_howManyParts_r1 _ (List.mem_of_getElem? (i := 13) rfl)
theorem mw_X9_howManyParts__15 : (.initialized "java/lang/Math" : Cond) ∈ wsX9_howManyParts := rl_wsX9_howManyParts_r1 _ (List.mem_of_getElem? (i := 14) rfl)
theorem mw_X9_howManyParts__16 : (.code Lib.Math.max.name Lib.Math.max.code 2 (some .int) : Cond) ∈ wsX9_howManyParts := rl_wsX9_howManyParts_r1 _ (List.mem_of_getElem? (i := 15) rfl)
theorem mw_X9_howManyParts__17 : (.methodLink RX9 58 yX9_clearRows : Cond) ∈ wsX9_howManyParts := rl_wsX9_howManyParts_r1 _ (List.mem_of_getElem? (i := 16) rfl)
theorem mw_X9_howManyParts__18 : (.instanceMethod yX9_clearRows : Cond) ∈ wsX9_howManyParts := rl_wsX9_howManyParts_r1 _ (List.mem_of_getElem? (i := 17) rfl)
theorem mw_X9_howManyParts__19 : (.selects RX9 yX9_clearRows yX9_clearRows : Cond) ∈ wsX9_howManyParts := rl_wsX9_howManyParts_r1 _ (List.mem_of_getElem? (i := 18) rfl)
theorem mw_X9_howManyParts__20 : (.code yX9_clearRows cX9_clearRows 1 none : Cond) ∈ wsX9_howManyParts := rl_wsX9_howManyParts_r1 _ (List.mem_of_getElem? (i := 19) rfl)
theorem mw_X9_howManyParts__21 : (.arrayClass .int : Cond) ∈ wsX9_howManyParts := rl_wsX9_howManyParts_r1 _ (List.mem_of_getElem? (i := 20) rfl)
theorem mw_X9_howManyParts__22 : (.fieldLink RX9 15 "BallPots$Swaps" "other" "[I" : Cond) ∈ wsX9_howManyParts := rl_wsX9_howManyParts_r1 _ (List.mem_of_getElem? (i := 21) rfl)
theorem mw_X9_howManyParts__23 : (.fieldLink RX9 18 "BallPots$Swaps" "done" "I" : Cond) ∈ wsX9_howManyParts := rl_wsX9_howManyParts_r1 _ (List.mem_of_getElem? (i := 22) rfl)
theorem mw_X9_howManyParts__24 : (.methodLink RX9 52 yJ7_fill_fda19 : Cond) ∈ wsX9_howManyParts := rl_wsX9_howManyParts_r1 _ (List.mem_of_getElem? (i := 23) rfl)
theorem mw_X9_howManyParts__25 : (.static yJ7_fill_fda19 : Cond) ∈ wsX9_howManyParts := rl_wsX9_howManyParts_r2 _ (List.mem_of_getElem? (i := 0) rfl)
theorem mw_X9_howManyParts__26 : (.initialized RJ7 : Cond) ∈ wsX9_howManyParts := rl_wsX9_howManyParts_r2 _ (List.mem_of_getElem? (i := 1) rfl)
theorem mw_X9_howManyParts__27 : (.code yJ7_fill_fda19 cJ7_fill_fda19 5 none : Cond) ∈ wsX9_howManyParts := rl_wsX9_howManyParts_r2 _ (List.mem_of_getElem? (i := 2) rfl)
theorem mw_X9_howManyParts__28 : (.methodLink RJ7 13 yJ7_rangeCheck_23922 : Cond) ∈ wsX9_howManyParts := rl_wsX9_howManyParts_r2 _ (List.mem_of_getElem? (i := 3) rfl)
theorem mw_X9_howManyParts__29 : (.static yJ7_rangeCheck_23922 : Cond) ∈ wsX9_howManyParts := rl_wsX9_howManyParts_r2 _ (List.mem_of_getElem? (i := 4) rfl)
theorem mw_X9_howManyParts__30 : (.code yJ7_rangeCheck_23922 cJ7_rangeCheck_23922 3 none : Cond) ∈ wsX9_howManyParts := rl_wsX9_howManyParts_r2 _ (List.mem_of_getElem? (i := 5) rfl)
theorem mw_X9_howManyParts__31 : (.classLink RJ7 68 RJx00060 : Cond) ∈ wsX9_howManyParts := rl_wsX9_howManyParts_r2 _ (List.mem_of_getElem? (i := 6) rfl)
theorem mw_X9_howManyParts__32 : (.instantiable RJx00060 6 : Cond) ∈ wsX9_howManyParts := rl_wsX9_howManyParts_r2 _ (List.mem_of_getElem? (i := 7) rfl)
theorem mw_X9_howManyParts__33 : (.initialized RJx00060 : Cond) ∈ wsX9_howManyParts := rl_wsX9_howManyParts_r2 _ (List.mem_of_getElem? (i := 8) rfl)
theorem mw_X9_howManyParts__34 : (.methodLink RX9 70 yX9_sizeOfPart : Cond) ∈ wsX9_howManyParts := rl_wsX9_howManyParts_r2 _ (List.mem_of_getElem? (i := 9) rfl)
theorem mw_X9_howManyParts__35 : (.instanceMethod yX9_sizeOfPart : Cond) ∈ wsX9_howManyParts := rl_wsX9_howManyParts_r2 _ (List.mem_of_getElem? (i := 10) rfl)
theorem mw_X9_howManyParts__36 : (.selects RX9 yX9_sizeOfPart yX9_sizeOfPart : Cond) ∈ wsX9_howManyParts := rl_wsX9_howManyParts_r2 _ (List.mem_of_getElem? (i := 11) rfl)
theorem mw_X9_howManyParts__37 : (.code yX9_sizeOfPart cX9_sizeOfPart 4 (some .int) : Cond) ∈ wsX9_howManyParts := rl_wsX9_howManyParts_r2 _ (List.mem_of_getElem? (i := 12) rfl)
theorem mw_X9_howManyParts__38 : (.methodLink RX9 80 yX9_meet : Cond) ∈ wsX9_howManyParts := rl_wsX9_howManyParts_r2 _ (List.mem_of_getElem? (i := 13) rfl)
theorem mw_X9_howManyParts__39 : (.instanceMethod yX9_meet : Cond) ∈ wsX9_howManyParts := rl_wsX9_howManyParts_r2 _ (List.mem_of_getElem? (i := 14) rfl)
theorem mw_X9_howManyParts__40 : (.selects RX9 yX9_meet yX9_meet : Cond) ∈ wsX9_howManyParts := rl_wsX9_howManyParts_r2 _ (List.mem_of_getElem? (i := 15) rfl)
theorem mw_X9_howManyParts__41 : (.code yX9_meet cX9_meet 2 none : Cond) ∈ wsX9_howManyParts := rl_wsX9_howManyParts_r2 _ (List.mem_of_getElem? (i := 16) rfl)
theorem mw_X9_howManyParts__42 : (.methodLink RX9 84 yX9_meetSwapped : Cond) ∈ wsX9_howManyParts := rl_wsX9_howManyParts_r2 _ (List.mem_of_getElem? (i := 17) rfl)
theorem mw_X9_howManyParts__43 : (.instanceMethod yX9_meetSwapped : Cond) ∈ wsX9_howManyParts := rl_wsX9_howManyParts_r2 _ (List.mem_of_getElem? (i := 18) rfl)
theorem mw_X9_howManyParts__44 : (.selects RX9 yX9_meetSwapped yX9_meetSwapped : Cond) ∈ wsX9_howManyParts := rl_wsX9_howManyParts_r2 _ (List.mem_of_getElem? (i := 19) rfl)
theorem mw_X9_howManyParts__45 : (.code yX9_meetSwapped cX9_meetSwapped 8 none : Cond) ∈ wsX9_howManyParts := rl_wsX9_howManyParts_r2 _ (List.mem_of_getElem? (i := 20) rfl)
theorem mw_X9_howManyParts__46 : (.fieldLink RX9 32 "BallPots$Swaps" "ranks" "LBallPots$Ranks;" : Cond) ∈ wsX9_howManyParts := rl_wsX9_howManyParts_r2 _ (List.mem_of_getElem? (i := 21) rfl)
theorem mw_X9_howManyParts__47 : (.methodLink RX9 99 yX2_rankIn : Cond) ∈ wsX9_howManyParts := rl_wsX9_howManyParts_r2 _ (List.mem_of_getElem? (i := 22) rfl)
theorem mw_X9_howManyParts__48 : (.instanceMethod yX2_rankIn : Cond) ∈ wsX9_howManyParts := rl_wsX9_howManyParts_r2 _ (List.mem_of_getElem? (i := 23) rfl)
theorem mw_X9_howManyParts__49 : (.selects RX2 yX2_rankIn yX2_rankIn : Cond) ∈ wsX9_howManyParts := rl_wsX9_howManyParts_r3 _ (List.mem_of_getElem? (i := 0) rfl)
theorem mw_X9_howManyParts__50 : (.initialized RX2 : Cond) ∈ wsX9_howManyParts := rl_wsX9_howManyParts_r3 _ (List.mem_of_getElem? (i := 1) rfl)
theorem mw_X9_howManyParts__51 : (.code yX2_rankIn cX2_rankIn 5 (some .int) : Cond) ∈ wsX9_howManyParts := rl_wsX9_howManyParts_r3 _ (List.mem_of_getElem? (i := 2) rfl)
theorem mw_X9_howManyParts__52 : (.fieldLink RX2 9 "BallPots$Draws" "step" "[I" : Cond) ∈ wsX9_howManyParts := rl_wsX9_howManyParts_r3 _ (List.mem_of_getElem? (i := 3) rfl)
theorem mw_X9_howManyParts__53 : (.fieldLink RX2 34 "BallPots$Draws" "ranks" "LBallPots$Ranks;" : Cond) ∈ wsX9_howManyParts := rl_wsX9_howManyParts_r3 _ (List.mem_of_getElem? (i := 4) rfl)
theorem mw_X9_meet__1 : (.fieldLink RX9 9 "BallPots$Swaps" "rows" "[I" : Cond) ∈ wsX9_meet := List.mem_of_getElem? (i := 1) rfl
theorem mw_X9_meet__2 : (.fieldLink RX9 61 "BallPots$Swaps" "queued" "I" : Cond) ∈ wsX9_meet := List.mem_of_getElem? (i := 2) rfl
theorem mw_X9_meet__3 : (.fieldLink RX9 15 "BallPots$Swaps" "other" "[I" : Cond) ∈ wsX9_meet := List.mem_of_getElem? (i := 3) rfl
theorem mw_X9_meetSwapped__1 : (.fieldLink RX9 22 "BallPots$Swaps" "draws" "LBallPots$Draws;" : Cond) ∈ wsX9_meetSwapped := List.mem_of_getElem? (i := 1) rfl
theorem mw_X9_meetSwapped__2 : (.fieldLink RX9 32 "BallPots$Swaps" "ranks" "LBallPots$Ranks;" : Cond) ∈ wsX9_meetSwapped := List.mem_of_getElem? (i := 2) rfl
theorem mw_X9_meetSwapped__3 : (.methodLink RX9 99 yX2_rankIn : Cond) ∈ wsX9_meetSwapped := List.mem_of_getElem? (i := 3) rfl
theorem mw_X9_meetSwapped__4 : (.instanceMethod yX2_rankIn : Cond) ∈ wsX9_meetSwapped := List.mem_of_getElem? (i := 4) rfl
theorem mw_X9_meetSwapped__5 : (.selects RX2 yX2_rankIn yX2_rankIn : Cond) ∈ wsX9_meetSwapped := List.mem_of_getElem? (i := 5) rfl
theorem mw_X9_meetSwapped__6 : (.initialized RX2 : Cond) ∈ wsX9_meetSwapped := List.mem_of_getElem? (i := 6) rfl
theorem mw_X9_meetSwapped__7 : (.code yX2_rankIn cX2_rankIn 5 (some .int) : Cond) ∈ wsX9_meetSwapped := List.mem_of_getElem? (i := 7) rfl
theorem mw_X9_meetSwapped__8 : (.fieldLink RX2 9 "BallPots$Draws" "step" "[I" : Cond) ∈ wsX9_meetSwapped := List.mem_of_getElem? (i := 8) rfl
theorem mw_X9_meetSwapped__9 : (.fieldLink RX2 34 "BallPots$Draws" "ranks" "LBallPots$Ranks;" : Cond) ∈ wsX9_meetSwapped := List.mem_of_getElem? (i := 9) rfl
theorem mw_X9_meetSwapped__10 : (.methodLink RX9 80 yX9_meet : Cond) ∈ wsX9_meetSwapped := List.mem_of_getElem? (i := 10) rfl
theorem mw_X9_meetSwapped__11 : (.instanceMethod yX9_meet : Cond) ∈ wsX9_meetSwapped := List.mem_of_getElem? (i := 11) rfl
theorem mw_X9_meetSwapped__12 : (.selects RX9 yX9_meet yX9_meet : Cond) ∈ wsX9_meetSwapped := List.mem_of_getElem? (i := 12) rfl
theorem mw_X9_meetSwapped__13 : (.initialized RX9 : Cond) ∈ wsX9_meetSwapped := List.mem_of_getElem? (i := 13) rfl
theorem mw_X9_meetSwapped__14 : (.code yX9_meet cX9_meet 2 none : Cond) ∈ wsX9_meetSwapped := List.mem_of_getElem? (i := 14) rfl
theorem mw_X9_meetSwapped__15 : (.fieldLink RX9 9 "BallPots$Swaps" "rows" "[I" : Cond) ∈ wsX9_meetSwapped := List.mem_of_getElem? (i := 15) rfl
theorem mw_X9_meetSwapped__16 : (.fieldLink RX9 61 "BallPots$Swaps" "queued" "I" : Cond) ∈ wsX9_meetSwapped := List.mem_of_getElem? (i := 16) rfl
theorem mw_X9_meetSwapped__17 : (.fieldLink RX9 15 "BallPots$Swaps" "other" "[I" : Cond) ∈ wsX9_meetSwapped := List.mem_of_getElem? (i := 17) rfl
theorem mw_X9_pass__1 : (.fieldLink RX9 22 "BallPots$Swaps" "draws" "LBallPots$Draws;" : Cond) ∈ wsX9_pass := List.mem_of_getElem? (i := 1) rfl
theorem mw_X9_pass__2 : (.fieldLink RX9 32 "BallPots$Swaps" "ranks" "LBallPots$Ranks;" : Cond) ∈ wsX9_pass := List.mem_of_getElem? (i := 2) rfl
theorem mw_X9_pass__3 : (.fieldLink RX9 15 "BallPots$Swaps" "other" "[I" : Cond) ∈ wsX9_pass := List.mem_of_getElem? (i := 3) rfl
theorem mw_X9_pass__4 : (.methodLink RX9 99 yX2_rankIn : Cond) ∈ wsX9_pass := List.mem_of_getElem? (i := 4) rfl
theorem mw_X9_pass__5 : (.instanceMethod yX2_rankIn : Cond) ∈ wsX9_pass := List.mem_of_getElem? (i := 5) rfl
theorem mw_X9_pass__6 : (.selects RX2 yX2_rankIn yX2_rankIn : Cond) ∈ wsX9_pass := List.mem_of_getElem? (i := 6) rfl
theorem mw_X9_pass__7 : (.initialized RX2 : Cond) ∈ wsX9_pass := List.mem_of_getElem? (i := 7) rfl
theorem mw_X9_pass__8 : (.code yX2_rankIn cX2_rankIn 5 (some .int) : Cond) ∈ wsX9_pass := List.mem_of_getElem? (i := 8) rfl
theorem mw_X9_pass__9 : (.fieldLink RX2 9 "BallPots$Draws" "step" "[I" : Cond) ∈ wsX9_pass := List.mem_of_getElem? (i := 9) rfl
theorem mw_X9_pass__10 : (.fieldLink RX2 34 "BallPots$Draws" "ranks" "LBallPots$Ranks;" : Cond) ∈ wsX9_pass := List.mem_of_getElem? (i := 10) rfl
theorem mw_X9_rowsTo__1 : (.fieldLink RX9 9 "BallPots$Swaps" "rows" "[I" : Cond) ∈ wsX9_rowsTo := rl_wsX9_rowsTo_r1 _ (List.mem_of_getElem? (i := 0) rfl)
theorem mw_X9_rowsTo__2 : (.methodLink RX9 113 yX9_swapTimes : Cond) ∈ wsX9_rowsTo := rl_wsX9_rowsTo_r1 _ (List.mem_of_getElem? (i := 1) rfl)
theorem mw_X9_rowsTo__3 : (.instanceMethod yX9_swapTimes : Cond) ∈ wsX9_rowsTo := rl_wsX9_rowsTo_r1 _ (List.mem_of_getElem? (i := 2) rfl)
theorem mw_X9_rowsTo__4 : (.selects RX9 yX9_swapTimes yX9_swapTimes : Cond) ∈ wsX9_rowsTo := rl_wsX9_rowsTo_r1 _ (List.mem_of_getElem? (i := 3) rfl)
theorem mw_X9_rowsTo__5 : (.initialized RX9 : Cond) ∈ wsX9_rowsTo := rl_wsX9_rowsTo_r1 _ (List.mem_of_getElem? (i := 4) rfl)
theorem mw_X9_rowsTo__6 : (.code yX9_swapTimes cX9_swapTimes 3 none : Cond) ∈ wsX9_rowsTo := rl_wsX9_rowsTo_r1 _ (List.mem_of_getElem? (i := 5) rfl)
theorem mw_X9_rowsTo__7 : (.fieldLink RX9 18 "BallPots$Swaps" "done" "I" : Cond) ∈ wsX9_rowsTo := rl_wsX9_rowsTo_r1 _ (List.mem_of_getElem? (i := 6) rfl)
theorem mw_X9_rowsTo__8 : (.fieldLink RX9 22 "BallPots$Swaps" "draws" "LBallPots$Draws;" : Cond) ∈ wsX9_rowsTo := rl_wsX9_rowsTo_r1 _ (List.mem_of_getElem? (i := 7) rfl)
theorem mw_X9_rowsTo__9 : (.methodLink RX9 58 yX9_clearRows : Cond) ∈ wsX9_rowsTo := rl_wsX9_rowsTo_r1 _ (List.mem_of_getElem? (i := 8) rfl)
theorem mw_X9_rowsTo__10 : (.instanceMethod yX9_clearRows : Cond) ∈ wsX9_rowsTo := rl_wsX9_rowsTo_r1 _ (List.mem_of_getElem? (i := 9) rfl)
theorem mw_X9_rowsTo__11 : (.selects RX9 yX9_clearRows yX9_clearRows : Cond) ∈ wsX9_rowsTo := rl_wsX9_rowsTo_r1 _ (List.mem_of_getElem? (i := 10) rfl)
theorem mw_X9_rowsTo__12 : (.code yX9_clearRows cX9_clearRows 1 none : Cond) ∈ wsX9_rowsTo := rl_wsX9_rowsTo_r1 _ (List.mem_of_getElem? (i := 11) rfl)
theorem mw_X9_rowsTo__13 : (.arrayClass .int : Cond) ∈ wsX9_rowsTo := rl_wsX9_rowsTo_r1 _ (List.mem_of_getElem? (i := 12) rfl)
theorem mw_X9_rowsTo__14 : (.fieldLink RX9 15 "BallPots$Swaps" "other" "[I" : Cond) ∈ wsX9_rowsTo := rl_wsX9_rowsTo_r1 _ (List.mem_of_getElem? (i := 13) rfl)
theorem mw_X9_rowsTo__15 : (.methodLink RX9 52 yJ7_fill_fda19 : Cond) ∈ wsX9_rowsTo := rl_wsX9_rowsTo_r1 _ (List.mem_of_getElem? (i := 14) rfl)
theorem mw_X9_rowsTo__16 : (.static yJ7_fill_fda19 : Cond) ∈ wsX9_rowsTo := rl_wsX9_rowsTo_r1 _ (List.mem_of_getElem? (i := 15) rfl)
theorem mw_X9_rowsTo__17 : (.initialized RJ7 : Cond) ∈ wsX9_rowsTo := rl_wsX9_rowsTo_r1 _ (List.mem_of_getElem? (i := 16) rfl)
theorem mw_X9_rowsTo__18 : (.code yJ7_fill_fda19 cJ7_fill_fda19 5 none : Cond) ∈ wsX9_rowsTo := rl_wsX9_rowsTo_r1 _ (List.mem_of_getElem? (i := 17) rfl)
theorem mw_X9_rowsTo__19 : (.methodLink RJ7 13 yJ7_rangeCheck_23922 : Cond) ∈ wsX9_rowsTo := rl_wsX9_rowsTo_r1 _ (List.mem_of_getElem? (i := 18) rfl)
theorem mw_X9_rowsTo__20 : (.static yJ7_rangeCheck_23922 : Cond) ∈ wsX9_rowsTo := rl_wsX9_rowsTo_r1 _ (List.mem_of_getElem? (i := 19) rfl)
theorem mw_X9_rowsTo__21 : (.code yJ7_rangeCheck_23922 cJ7_rangeCheck_23922 3 none : Cond) ∈ wsX9_rowsTo := rl_wsX9_rowsTo_r1 _ (List.mem_of_getElem? (i := 20) rfl)
theorem mw_X9_rowsTo__22 : (.classLink RJ7 68 RJx00060 : Cond) ∈ wsX9_rowsTo := rl_wsX9_rowsTo_r1 _ (List.mem_of_getElem? (i := 21) rfl)
theorem mw_X9_rowsTo__23 : (.instantiable RJx00060 6 : Cond) ∈ wsX9_rowsTo := rl_wsX9_rowsTo_r1 _ (List.mem_of_getElem? (i := 22) rfl)
theorem mw_X9_rowsTo__24 : (.initialized RJx00060 : Cond) ∈ wsX9_rowsTo := rl_wsX9_rowsTo_r1 _ (List.mem_of_getElem? (i := 23) rfl)
theorem mw_X9_rowsTo__25 : (.methodLink RX9 124 yX9_swapOnce : Cond) ∈ wsX9_rowsTo := rl_wsX9_rowsTo_r2 _ (List.mem_of_getElem? (i := 0) rfl)
theorem mw_X9_rowsTo__26 : (.instanceMethod yX9_swapOnce : Cond) ∈ wsX9_rowsTo := rl_wsX9_rowsTo_r2 _ (List.mem_of_getElem? (i := 1) rfl)
theorem mw_X9_rowsTo__27 : (.selects RX9 yX9_swapOnce yX9_swapOnce : Cond) ∈ wsX9_rowsTo := rl_wsX9_rowsTo_r2 _ (List.mem_of_getElem? (i := 2) rfl)
theorem mw_X9_rowsTo__28 : (.code yX9_swapOnce cX9_swapOnce 3 none : Cond) ∈ wsX9_rowsTo := rl_wsX9_rowsTo_r2 _ (List.mem_of_getElem? (i := 3) rfl)
theorem mw_X9_rowsTo__29 : (.methodLink RX9 127 yX9_pass : Cond) ∈ wsX9_rowsTo := rl_wsX9_rowsTo_r2 _ (List.mem_of_getElem? (i := 4) rfl)
theorem mw_X9_rowsTo__30 : (.instanceMethod yX9_pass : Cond) ∈ wsX9_rowsTo := rl_wsX9_rowsTo_r2 _ (List.mem_of_getElem? (i := 5) rfl)
theorem mw_X9_rowsTo__31 : (.selects RX9 yX9_pass yX9_pass : Cond) ∈ wsX9_rowsTo := rl_wsX9_rowsTo_r2 _ (List.mem_of_getElem? (i := 6) rfl)
theorem mw_X9_rowsTo__32 : (.code yX9_pass cX9_pass 9 none : Cond) ∈ wsX9_rowsTo := rl_wsX9_rowsTo_r2 _ (List.mem_of_getElem? (i := 7) rfl)
theorem mw_X9_rowsTo__33 : (.fieldLink RX9 32 "BallPots$Swaps" "ranks" "LBallPots$Ranks;" : Cond) ∈ wsX9_rowsTo := rl_wsX9_rowsTo_r2 _ (List.mem_of_getElem? (i := 8) rfl)
theorem mw_X9_rowsTo__34 : (.methodLink RX9 99 yX2_rankIn : Cond) ∈ wsX9_rowsTo := rl_wsX9_rowsTo_r2 _ (List.mem_of_getElem? (i := 9) rfl)
theorem mw_X9_rowsTo__35 : (.instanceMethod yX2_rankIn : Cond) ∈ wsX9_rowsTo := rl_wsX9_rowsTo_r2 _ (List.mem_of_getElem? (i := 10) rfl)
theorem mw_X9_rowsTo__36 : (.selects RX2 yX2_rankIn yX2_rankIn : Cond) ∈ wsX9_rowsTo := rl_wsX9_rowsTo_r2 _ (List.mem_of_getElem? (i := 11) rfl)
theorem mw_X9_rowsTo__37 : (.initialized RX2 : Cond) ∈ wsX9_rowsTo := rl_wsX9_rowsTo_r2 _ (List.mem_of_getElem? (i := 12) rfl)
theorem mw_X9_rowsTo__38 : (.code yX2_rankIn cX2_rankIn 5 (some .int) : Cond) ∈ wsX9_rowsTo := rl_wsX9_rowsTo_r2 _ (List.mem_of_getElem? (i := 13) rfl)
theorem mw_X9_rowsTo__39 : (.fieldLink RX2 9 "BallPots$Draws" "step" "[I" : Cond) ∈ wsX9_rowsTo := rl_wsX9_rowsTo_r2 _ (List.mem_of_getElem? (i := 14) rfl)
theorem mw_X9_rowsTo__40 : (.fieldLink RX2 34 "BallPots$Draws" "ranks" "LBallPots$Ranks;" : Cond) ∈ wsX9_rowsTo := rl_wsX9_rowsTo_r2 _ (List.mem_of_getElem? (i := 15) rfl)
theorem mw_X9_sizeOfFirstPart__1 : (.fieldLink RX9 43 "BallPots$Swaps" "firstPart" "I" : Cond) ∈ wsX9_sizeOfFirstPart := rl_wsX9_sizeOfFirstPart_r1 _ (List.mem_of_getElem? (i := 0) rfl)
theorem mw_X9_sizeOfFirstPart__2 : (.methodLink RX9 37 yX9_findParts : Cond) ∈ wsX9_sizeOfFirstPart := rl_wsX9_sizeOfFirstPart_r1 _ (List.mem_of_getElem? (i := 1) rfl)
theorem mw_X9_sizeOfFirstPart__3 : (.instanceMethod yX9_findParts : Cond) ∈ wsX9_sizeOfFirstPart := rl_wsX9_sizeOfFirstPart_r1 _ (List.mem_of_getElem? (i := 2) rfl)
theorem mw_X9_sizeOfFirstPart__4 : (.selects RX9 yX9_findParts yX9_findParts : Cond) ∈ wsX9_sizeOfFirstPart := rl_wsX9_sizeOfFirstPart_r1 _ (List.mem_of_getElem? (i := 3) rfl)
theorem mw_X9_sizeOfFirstPart__5 : (.initialized RX9 : Cond) ∈ wsX9_sizeOfFirstPart := rl_wsX9_sizeOfFirstPart_r1 _ (List.mem_of_getElem? (i := 4) rfl)
theorem mw_X9_sizeOfFirstPart__6 : (.code yX9_findParts cX9_findParts 3 none : Cond) ∈ wsX9_sizeOfFirstPart := rl_wsX9_sizeOfFirstPart_r1 _ (List.mem_of_getElem? (i := 5) rfl)
theorem mw_X9_sizeOfFirstPart__7 : (.fieldLink RX9 33 "BallPots$Swaps" "partsFresh" "Z" : Cond) ∈ wsX9_sizeOfFirstPart := rl_wsX9_sizeOfFirstPart_r1 _ (List.mem_of_getElem? (i := 6) rfl)
theorem mw_X9_sizeOfFirstPart__8 : (.fieldLink RX9 40 "BallPots$Swaps" "manyParts" "I" : Cond) ∈ wsX9_sizeOfFirstPart := rl_wsX9_sizeOfFirstPart_r1 _ (List.mem_of_getElem? (i := 7) rfl)
theorem mw_X9_sizeOfFirstPart__9 : (.fieldLink RX9 46 "BallPots$Swaps" "greatestPart" "I" : Cond) ∈ wsX9_sizeOfFirstPart := rl_wsX9_sizeOfFirstPart_r1 _ (List.mem_of_getElem? (i := 8) rfl)
theorem mw_X9_sizeOfFirstPart__10 : (.fieldLink RX9 61 "BallPots$Swaps" "queued" "I" : Cond) ∈ wsX9_sizeOfFirstPart := rl_wsX9_sizeOfFirstPart_r1 _ (List.mem_of_getElem? (i := 9) rfl)
theorem mw_X9_sizeOfFirstPart__11 : (.fieldLink RX9 22 "BallPots$Swaps" "draws" "LBallPots$Draws;" : Cond) ∈ wsX9_sizeOfFirstPart := rl_wsX9_sizeOfFirstPart_r1 _ (List.mem_of_getElem? (i := 10) rfl)
theorem mw_X9_sizeOfFirstPart__12 : (.fieldLink RX9 9 "BallPots$Swaps" "rows" "[I" : Cond) ∈ wsX9_sizeOfFirstPart := rl_wsX9_sizeOfFirstPart_r1 _ (List.mem_of_getElem? (i := 11) rfl)
theorem mw_X9_sizeOfFirstPart__13 : (.methodLink RX9 74 Lib.Math.max.name : Cond) ∈ wsX9_sizeOfFirstPart := rl_wsX9_sizeOfFirstPart_r1 _ (List.mem_of_getElem? (i := 12) rfl)
theorem mw_X9_sizeOfFirstPart__14 : (.static Lib.Math.max.name : Cond) ∈ wsX9_sizeOfFirstPart := rl_wsX9_sizeOfFirstPart_r1 _ (List.mem_of_getElem? (i := 13) rfl)
theorem mw_X9_sizeOfFirstPart__15 : (.initialized "java/lang/Math" : Cond) ∈ wsX9_sizeOfFirstPart := rl_wsX9_sizeOfFirstPart_r1 _ (List.mem_of_getElem? (i := 14) rfl)
theorem mw_X9_sizeOfFirstPart__16 : (.code Lib.Math.max.name Lib.Math.max.code 2 (some .int) : Cond) ∈ wsX9_sizeOfFirstPart := rl_wsX9_sizeOfFirstPart_r1 _ (List.mem_of_getElem? (i := 15) rfl)
theorem mw_X9_sizeOfFirstPart__17 : (.methodLink RX9 58 yX9_clearRows : Cond) ∈ wsX9_sizeOfFirstPart := rl_wsX9_sizeOfFirstPart_r1 _ (List.mem_of_getElem? (i := 16) rfl)
theorem mw_X9_sizeOfFirstPart__18 : (.instanceMethod yX9_clearRows : Cond) ∈ wsX9_sizeOfFirstPart := rl_wsX9_sizeOfFirstPart_r1 _ (List.mem_of_getElem? (i := 17) rfl)
theorem mw_X9_sizeOfFirstPart__19 : (.selects RX9 yX9_clearRows yX9_clearRows : Cond) ∈ wsX9_sizeOfFirstPart := rl_wsX9_sizeOfFirstPart_r1 _ (List.mem_of_getElem? (i := 18) rfl)
theorem mw_X9_sizeOfFirstPart__20 : (.code yX9_clearRows cX9_clearRows 1 none : Cond) ∈ wsX9_sizeOfFirstPart := rl_wsX9_sizeOfFirstPart_r1 _ (List.mem_of_getElem? (i := 19) rfl)
theorem mw_X9_sizeOfFirstPart__21 : (.arrayClass .int : Cond) ∈ wsX9_sizeOfFirstPart := rl_wsX9_sizeOfFirstPart_r1 _ (List.mem_of_getElem? (i := 20) rfl)
theorem mw_X9_sizeOfFirstPart__22 : (.fieldLink RX9 15 "BallPots$Swaps" "other" "[I" : Cond) ∈ wsX9_sizeOfFirstPart := rl_wsX9_sizeOfFirstPart_r1 _ (List.mem_of_getElem? (i := 21) rfl)
theorem mw_X9_sizeOfFirstPart__23 : (.fieldLink RX9 18 "BallPots$Swaps" "done" "I" : Cond) ∈ wsX9_sizeOfFirstPart := rl_wsX9_sizeOfFirstPart_r1 _ (List.mem_of_getElem? (i := 22) rfl)
theorem mw_X9_sizeOfFirstPart__24 : (.methodLink RX9 52 yJ7_fill_fda19 : Cond) ∈ wsX9_sizeOfFirstPart := rl_wsX9_sizeOfFirstPart_r1 _ (List.mem_of_getElem? (i := 23) rfl)
theorem mw_X9_sizeOfFirstPart__25 : (.static yJ7_fill_fda19 : Cond) ∈ wsX9_sizeOfFirstPart := rl_wsX9_sizeOfFirstPart_r2 _ (List.mem_of_getElem? (i := 0) rfl)
theorem mw_X9_sizeOfFirstPart__26 : (.initialized RJ7 : Cond) ∈ wsX9_sizeOfFirstPart := rl_wsX9_sizeOfFirstPart_r2 _ (List.mem_of_getElem? (i := 1) rfl)
theorem mw_X9_sizeOfFirstPart__27 : (.code yJ7_fill_fda19 cJ7_fill_fda19 5 none : Cond) ∈ wsX9_sizeOfFirstPart := rl_wsX9_sizeOfFirstPart_r2 _ (List.mem_of_getElem? (i := 2) rfl)
theorem mw_X9_sizeOfFirstPart__28 : (.methodLink RJ7 13 yJ7_rangeCheck_23922 : Cond) ∈ wsX9_sizeOfFirstPart := rl_wsX9_sizeOfFirstPart_r2 _ (List.mem_of_getElem? (i := 3) rfl)
theorem mw_X9_sizeOfFirstPart__29 : (.static yJ7_rangeCheck_23922 : Cond) ∈ wsX9_sizeOfFirstPart := rl_wsX9_sizeOfFirstPart_r2 _ (List.mem_of_getElem? (i := 4) rfl)
theorem mw_X9_sizeOfFirstPart__30 : (.code yJ7_rangeCheck_23922 cJ7_rangeCheck_23922 3 none : Cond) ∈ wsX9_sizeOfFirstPart := rl_wsX9_sizeOfFirstPart_r2 _ (List.mem_of_getElem? (i := 5) rfl)
theorem mw_X9_sizeOfFirstPart__31 : (.classLink RJ7 68 RJx00060 : Cond) ∈ wsX9_sizeOfFirstPart := rl_wsX9_sizeOfFirstPart_r2 _ (List.mem_of_getElem? (i := 6) rfl)
theorem mw_X9_sizeOfFirstPart__32 : (.instantiable RJx00060 6 : Cond) ∈ wsX9_sizeOfFirstPart := rl_wsX9_sizeOfFirstPart_r2 _ (List.mem_of_getElem? (i := 7) rfl)
theorem mw_X9_sizeOfFirstPart__33 : (.initialized RJx00060 : Cond) ∈ wsX9_sizeOfFirstPart := rl_wsX9_sizeOfFirstPart_r2 _ (List.mem_of_getElem? (i := 8) rfl)
theorem mw_X9_sizeOfFirstPart__34 : (.methodLink RX9 70 yX9_sizeOfPart : Cond) ∈ wsX9_sizeOfFirstPart := rl_wsX9_sizeOfFirstPart_r2 _ (List.mem_of_getElem? (i := 9) rfl)
theorem mw_X9_sizeOfFirstPart__35 : (.instanceMethod yX9_sizeOfPart : Cond) ∈ wsX9_sizeOfFirstPart := rl_wsX9_sizeOfFirstPart_r2 _ (List.mem_of_getElem? (i := 10) rfl)
theorem mw_X9_sizeOfFirstPart__36 : (.selects RX9 yX9_sizeOfPart yX9_sizeOfPart : Cond) ∈ wsX9_sizeOfFirstPart := rl_wsX9_sizeOfFirstPart_r2 _ (List.mem_of_getElem? (i := 11) rfl)
theorem mw_X9_sizeOfFirstPart__37 : (.code yX9_sizeOfPart cX9_sizeOfPart 4 (some .int) : Cond) ∈ wsX9_sizeOfFirstPart := rl_wsX9_sizeOfFirstPart_r2 _ (List.mem_of_getElem? (i := 12) rfl)
theorem mw_X9_sizeOfFirstPart__38 : (.methodLink RX9 80 yX9_meet : Cond) ∈ wsX9_sizeOfFirstPart := rl_wsX9_sizeOfFirstPart_r2 _ (List.mem_of_getElem? (i := 13) rfl)
theorem mw_X9_sizeOfFirstPart__39 : (.instanceMethod yX9_meet : Cond) ∈ wsX9_sizeOfFirstPart := rl_wsX9_sizeOfFirstPart_r2 _ (List.mem_of_getElem? (i := 14) rfl)
theorem mw_X9_sizeOfFirstPart__40 : (.selects RX9 yX9_meet yX9_meet : Cond) ∈ wsX9_sizeOfFirstPart := rl_wsX9_sizeOfFirstPart_r2 _ (List.mem_of_getElem? (i := 15) rfl)
theorem mw_X9_sizeOfFirstPart__41 : (.code yX9_meet cX9_meet 2 none : Cond) ∈ wsX9_sizeOfFirstPart := rl_wsX9_sizeOfFirstPart_r2 _ (List.mem_of_getElem? (i := 16) rfl)
theorem mw_X9_sizeOfFirstPart__42 : (.methodLink RX9 84 yX9_meetSwapped : Cond) ∈ wsX9_sizeOfFirstPart := rl_wsX9_sizeOfFirstPart_r2 _ (List.mem_of_getElem? (i := 17) rfl)
theorem mw_X9_sizeOfFirstPart__43 : (.instanceMethod yX9_meetSwapped : Cond) ∈ wsX9_sizeOfFirstPart := rl_wsX9_sizeOfFirstPart_r2 _ (List.mem_of_getElem? (i := 18) rfl)
theorem mw_X9_sizeOfFirstPart__44 : (.selects RX9 yX9_meetSwapped yX9_meetSwapped : Cond) ∈ wsX9_sizeOfFirstPart := rl_wsX9_sizeOfFirstPart_r2 _ (List.mem_of_getElem? (i := 19) rfl)
theorem mw_X9_sizeOfFirstPart__45 : (.code yX9_meetSwapped cX9_meetSwapped 8 none : Cond) ∈ wsX9_sizeOfFirstPart := rl_wsX9_sizeOfFirstPart_r2 _ (List.mem_of_getElem? (i := 20) rfl)
theorem mw_X9_sizeOfFirstPart__46 : (.fieldLink RX9 32 "BallPots$Swaps" "ranks" "LBallPots$Ranks;" : Cond) ∈ wsX9_sizeOfFirstPart := rl_wsX9_sizeOfFirstPart_r2 _ (List.mem_of_getElem? (i := 21) rfl)
theorem mw_X9_sizeOfFirstPart__47 : (.methodLink RX9 99 yX2_rankIn : Cond) ∈ wsX9_sizeOfFirstPart := rl_wsX9_sizeOfFirstPart_r2 _ (List.mem_of_getElem? (i := 22) rfl)
theorem mw_X9_sizeOfFirstPart__48 : (.instanceMethod yX2_rankIn : Cond) ∈ wsX9_sizeOfFirstPart := rl_wsX9_sizeOfFirstPart_r2 _ (List.mem_of_getElem? (i := 23) rfl)
theorem mw_X9_sizeOfFirstPart__49 : (.selects RX2 yX2_rankIn yX2_rankIn : Cond) ∈ wsX9_sizeOfFirstPart := rl_wsX9_sizeOfFirstPart_r3 _ (List.mem_of_getElem? (i := 0) rfl)
theorem mw_X9_sizeOfFirstPart__50 : (.initialized RX2 : Cond) ∈ wsX9_sizeOfFirstPart := rl_wsX9_sizeOfFirstPart_r3 _ (List.mem_of_getElem? (i := 1) rfl)
theorem mw_X9_sizeOfFirstPart__51 : (.code yX2_rankIn cX2_rankIn 5 (some .int) : Cond) ∈ wsX9_sizeOfFirstPart := rl_wsX9_sizeOfFirstPart_r3 _ (List.mem_of_getElem? (i := 2) rfl)
theorem mw_X9_sizeOfFirstPart__52 : (.fieldLink RX2 9 "BallPots$Draws" "step" "[I" : Cond) ∈ wsX9_sizeOfFirstPart := rl_wsX9_sizeOfFirstPart_r3 _ (List.mem_of_getElem? (i := 3) rfl)
theorem mw_X9_sizeOfFirstPart__53 : (.fieldLink RX2 34 "BallPots$Draws" "ranks" "LBallPots$Ranks;" : Cond) ∈ wsX9_sizeOfFirstPart := rl_wsX9_sizeOfFirstPart_r3 _ (List.mem_of_getElem? (i := 4) rfl)
theorem mw_X9_sizeOfGreatestPart__1 : (.fieldLink RX9 46 "BallPots$Swaps" "greatestPart" "I" : Cond) ∈ wsX9_sizeOfGreatestPart := rl_wsX9_sizeOfGreatestPart_r1 _ (List.mem_of_getElem? (i := 0) rfl)
theorem mw_X9_sizeOfGreatestPart__2 : (.methodLink RX9 37 yX9_findParts : Cond) ∈ wsX9_sizeOfGreatestPart := rl_wsX9_sizeOfGreatestPart_r1 _ (List.mem_of_getElem? (i := 1) rfl)
theorem mw_X9_sizeOfGreatestPart__3 : (.instanceMethod yX9_findParts : Cond) ∈ wsX9_sizeOfGreatestPart := rl_wsX9_sizeOfGreatestPart_r1 _ (List.mem_of_getElem? (i := 2) rfl)
theorem mw_X9_sizeOfGreatestPart__4 : (.selects RX9 yX9_findParts yX9_findParts : Cond) ∈ wsX9_sizeOfGreatestPart := rl_wsX9_sizeOfGreatestPart_r1 _ (List.mem_of_getElem? (i := 3) rfl)
theorem mw_X9_sizeOfGreatestPart__5 : (.initialized RX9 : Cond) ∈ wsX9_sizeOfGreatestPart := rl_wsX9_sizeOfGreatestPart_r1 _ (List.mem_of_getElem? (i := 4) rfl)
theorem mw_X9_sizeOfGreatestPart__6 : (.code yX9_findParts cX9_findParts 3 none : Cond) ∈ wsX9_sizeOfGreatestPart := rl_wsX9_sizeOfGreatestPart_r1 _ (List.mem_of_getElem? (i := 5) rfl)
theorem mw_X9_sizeOfGreatestPart__7 : (.fieldLink RX9 33 "BallPots$Swaps" "partsFresh" "Z" : Cond) ∈ wsX9_sizeOfGreatestPart := rl_wsX9_sizeOfGreatestPart_r1 _ (List.mem_of_getElem? (i := 6) rfl)
theorem mw_X9_sizeOfGreatestPart__8 : (.fieldLink RX9 40 "BallPots$Swaps" "manyParts" "I" : Cond) ∈ wsX9_sizeOfGreatestPart := rl_wsX9_sizeOfGreatestPart_r1 _ (List.mem_of_getElem? (i := 7) rfl)
theorem mw_X9_sizeOfGreatestPart__9 : (.fieldLink RX9 43 "BallPots$Swaps" "firstPart" "I" : Cond) ∈ wsX9_sizeOfGreatestPart := rl_wsX9_sizeOfGreatestPart_r1 _ (List.mem_of_getElem? (i := 8) rfl)
theorem mw_X9_sizeOfGreatestPart__10 : (.fieldLink RX9 61 "BallPots$Swaps" "queued" "I" : Cond) ∈ wsX9_sizeOfGreatestPart := rl_wsX9_sizeOfGreatestPart_r1 _ (List.mem_of_getElem? (i := 9) rfl)
theorem mw_X9_sizeOfGreatestPart__11 : (.fieldLink RX9 22 "BallPots$Swaps" "draws" "LBallPots$Draws;" : Cond) ∈ wsX9_sizeOfGreatestPart := rl_wsX9_sizeOfGreatestPart_r1 _ (List.mem_of_getElem? (i := 10) rfl)
theorem mw_X9_sizeOfGreatestPart__12 : (.fieldLink RX9 9 "BallPots$Swaps" "rows" "[I" : Cond) ∈ wsX9_sizeOfGreatestPart := rl_wsX9_sizeOfGreatestPart_r1 _ (List.mem_of_getElem? (i := 11) rfl)
theorem mw_X9_sizeOfGreatestPart__13 : (.methodLink RX9 74 Lib.Math.max.name : Cond) ∈ wsX9_sizeOfGreatestPart := rl_wsX9_sizeOfGreatestPart_r1 _ (List.mem_of_getElem? (i := 12) rfl)
theorem mw_X9_sizeOfGreatestPart__14 : (.static Lib.Math.max.name : Cond) ∈ wsX9_sizeOfGreatestPart := rl_wsX9_sizeOfGreatestPart_r1 _ (List.mem_of_getElem? (i := 13) rfl)
theorem mw_X9_sizeOfGreatestPart__15 : (.initialized "java/lang/Math" : Cond) ∈ wsX9_sizeOfGreatestPart := rl_wsX9_sizeOfGreatestPart_r1 _ (List.mem_of_getElem? (i := 14) rfl)
theorem mw_X9_sizeOfGreatestPart__16 : (.code Lib.Math.max.name Lib.Math.max.code 2 (some .int) : Cond) ∈ wsX9_sizeOfGreatestPart := rl_wsX9_sizeOfGreatestPart_r1 _ (List.mem_of_getElem? (i := 15) rfl)
theorem mw_X9_sizeOfGreatestPart__17 : (.methodLink RX9 58 yX9_clearRows : Cond) ∈ wsX9_sizeOfGreatestPart := rl_wsX9_sizeOfGreatestPart_r1 _ (List.mem_of_getElem? (i := 16) rfl)
theorem mw_X9_sizeOfGreatestPart__18 : (.instanceMethod yX9_clearRows : Cond) ∈ wsX9_sizeOfGreatestPart := rl_wsX9_sizeOfGreatestPart_r1 _ (List.mem_of_getElem? (i := 17) rfl)
theorem mw_X9_sizeOfGreatestPart__19 : (.selects RX9 yX9_clearRows yX9_clearRows : Cond) ∈ wsX9_sizeOfGreatestPart := rl_wsX9_sizeOfGreatestPart_r1 _ (List.mem_of_getElem? (i := 18) rfl)
theorem mw_X9_sizeOfGreatestPart__20 : (.code yX9_clearRows cX9_clearRows 1 none : Cond) ∈ wsX9_sizeOfGreatestPart := rl_wsX9_sizeOfGreatestPart_r1 _ (List.mem_of_getElem? (i := 19) rfl)
theorem mw_X9_sizeOfGreatestPart__21 : (.arrayClass .int : Cond) ∈ wsX9_sizeOfGreatestPart := rl_wsX9_sizeOfGreatestPart_r1 _ (List.mem_of_getElem? (i := 20) rfl)
theorem mw_X9_sizeOfGreatestPart__22 : (.fieldLink RX9 15 "BallPots$Swaps" "other" "[I" : Cond) ∈ wsX9_sizeOfGreatestPart := rl_wsX9_sizeOfGreatestPart_r1 _ (List.mem_of_getElem? (i := 21) rfl)
theorem mw_X9_sizeOfGreatestPart__23 : (.fieldLink RX9 18 "BallPots$Swaps" "done" "I" : Cond) ∈ wsX9_sizeOfGreatestPart := rl_wsX9_sizeOfGreatestPart_r1 _ (List.mem_of_getElem? (i := 22) rfl)
theorem mw_X9_sizeOfGreatestPart__24 : (.methodLink RX9 52 yJ7_fill_fda19 : Cond) ∈ wsX9_sizeOfGreatestPart := rl_wsX9_sizeOfGreatestPart_r1 _ (List.mem_of_getElem? (i := 23) rfl)
theorem mw_X9_sizeOfGreatestPart__25 : (.static yJ7_fill_fda19 : Cond) ∈ wsX9_sizeOfGreatestPart := rl_wsX9_sizeOfGreatestPart_r2 _ (List.mem_of_getElem? (i := 0) rfl)
theorem mw_X9_sizeOfGreatestPart__26 : (.initialized RJ7 : Cond) ∈ wsX9_sizeOfGreatestPart := rl_wsX9_sizeOfGreatestPart_r2 _ (List.mem_of_getElem? (i := 1) rfl)
theorem mw_X9_sizeOfGreatestPart__27 : (.code yJ7_fill_fda19 cJ7_fill_fda19 5 none : Cond) ∈ wsX9_sizeOfGreatestPart := rl_wsX9_sizeOfGreatestPart_r2 _ (List.mem_of_getElem? (i := 2) rfl)
theorem mw_X9_sizeOfGreatestPart__28 : (.methodLink RJ7 13 yJ7_rangeCheck_23922 : Cond) ∈ wsX9_sizeOfGreatestPart := rl_wsX9_sizeOfGreatestPart_r2 _ (List.mem_of_getElem? (i := 3) rfl)
theorem mw_X9_sizeOfGreatestPart__29 : (.static yJ7_rangeCheck_23922 : Cond) ∈ wsX9_sizeOfGreatestPart := rl_wsX9_sizeOfGreatestPart_r2 _ (List.mem_of_getElem? (i := 4) rfl)
theorem mw_X9_sizeOfGreatestPart__30 : (.code yJ7_rangeCheck_23922 cJ7_rangeCheck_23922 3 none : Cond) ∈ wsX9_sizeOfGreatestPart := rl_wsX9_sizeOfGreatestPart_r2 _ (List.mem_of_getElem? (i := 5) rfl)
theorem mw_X9_sizeOfGreatestPart__31 : (.classLink RJ7 68 RJx00060 : Cond) ∈ wsX9_sizeOfGreatestPart := rl_wsX9_sizeOfGreatestPart_r2 _ (List.mem_of_getElem? (i := 6) rfl)
theorem mw_X9_sizeOfGreatestPart__32 : (.instantiable RJx00060 6 : Cond) ∈ wsX9_sizeOfGreatestPart := rl_wsX9_sizeOfGreatestPart_r2 _ (List.mem_of_getElem? (i := 7) rfl)
theorem mw_X9_sizeOfGreatestPart__33 : (.initialized RJx00060 : Cond) ∈ wsX9_sizeOfGreatestPart := rl_wsX9_sizeOfGreatestPart_r2 _ (List.mem_of_getElem? (i := 8) rfl)
theorem mw_X9_sizeOfGreatestPart__34 : (.methodLink RX9 70 yX9_sizeOfPart : Cond) ∈ wsX9_sizeOfGreatestPart := rl_wsX9_sizeOfGreatestPart_r2 _ (List.mem_of_getElem? (i := 9) rfl)
theorem mw_X9_sizeOfGreatestPart__35 : (.instanceMethod yX9_sizeOfPart : Cond) ∈ wsX9_sizeOfGreatestPart := rl_wsX9_sizeOfGreatestPart_r2 _ (List.mem_of_getElem? (i := 10) rfl)
theorem mw_X9_sizeOfGreatestPart__36 : (.selects RX9 yX9_sizeOfPart yX9_sizeOfPart : Cond) ∈ wsX9_sizeOfGreatestPart := rl_wsX9_sizeOfGreatestPart_r2 _ (List.mem_of_getElem? (i := 11) rfl)
theorem mw_X9_sizeOfGreatestPart__37 : (.code yX9_sizeOfPart cX9_sizeOfPart 4 (some .int) : Cond) ∈ wsX9_sizeOfGreatestPart := rl_wsX9_sizeOfGreatestPart_r2 _ (List.mem_of_getElem? (i := 12) rfl)
theorem mw_X9_sizeOfGreatestPart__38 : (.methodLink RX9 80 yX9_meet : Cond) ∈ wsX9_sizeOfGreatestPart := rl_wsX9_sizeOfGreatestPart_r2 _ (List.mem_of_getElem? (i := 13) rfl)
theorem mw_X9_sizeOfGreatestPart__39 : (.instanceMethod yX9_meet : Cond) ∈ wsX9_sizeOfGreatestPart := rl_wsX9_sizeOfGreatestPart_r2 _ (List.mem_of_getElem? (i := 14) rfl)
theorem mw_X9_sizeOfGreatestPart__40 : (.selects RX9 yX9_meet yX9_meet : Cond) ∈ wsX9_sizeOfGreatestPart := rl_wsX9_sizeOfGreatestPart_r2 _ (List.mem_of_getElem? (i := 15) rfl)
theorem mw_X9_sizeOfGreatestPart__41 : (.code yX9_meet cX9_meet 2 none : Cond) ∈ wsX9_sizeOfGreatestPart := rl_wsX9_sizeOfGreatestPart_r2 _ (List.mem_of_getElem? (i := 16) rfl)
theorem mw_X9_sizeOfGreatestPart__42 : (.methodLink RX9 84 yX9_meetSwapped : Cond) ∈ wsX9_sizeOfGreatestPart := rl_wsX9_sizeOfGreatestPart_r2 _ (List.mem_of_getElem? (i := 17) rfl)
theorem mw_X9_sizeOfGreatestPart__43 : (.instanceMethod yX9_meetSwapped : Cond) ∈ wsX9_sizeOfGreatestPart := rl_wsX9_sizeOfGreatestPart_r2 _ (List.mem_of_getElem? (i := 18) rfl)
theorem mw_X9_sizeOfGreatestPart__44 : (.selects RX9 yX9_meetSwapped yX9_meetSwapped : Cond) ∈ wsX9_sizeOfGreatestPart := rl_wsX9_sizeOfGreatestPart_r2 _ (List.mem_of_getElem? (i := 19) rfl)
theorem mw_X9_sizeOfGreatestPart__45 : (.code yX9_meetSwapped cX9_meetSwapped 8 none : Cond) ∈ wsX9_sizeOfGreatestPart := rl_wsX9_sizeOfGreatestPart_r2 _ (List.mem_of_getElem? (i := 20) rfl)
theorem mw_X9_sizeOfGreatestPart__46 : (.fieldLink RX9 32 "BallPots$Swaps" "ranks" "LBallPots$Ranks;" : Cond) ∈ wsX9_sizeOfGreatestPart := rl_wsX9_sizeOfGreatestPart_r2 _ (List.mem_of_getElem? (i := 21) rfl)
theorem mw_X9_sizeOfGreatestPart__47 : (.methodLink RX9 99 yX2_rankIn : Cond) ∈ wsX9_sizeOfGreatestPart := rl_wsX9_sizeOfGreatestPart_r2 _ (List.mem_of_getElem? (i := 22) rfl)
theorem mw_X9_sizeOfGreatestPart__48 : (.instanceMethod yX2_rankIn : Cond) ∈ wsX9_sizeOfGreatestPart := rl_wsX9_sizeOfGreatestPart_r2 _ (List.mem_of_getElem? (i := 23) rfl)
theorem mw_X9_sizeOfGreatestPart__49 : (.selects RX2 yX2_rankIn yX2_rankIn : Cond) ∈ wsX9_sizeOfGreatestPart := rl_wsX9_sizeOfGreatestPart_r3 _ (List.mem_of_getElem? (i := 0) rfl)
theorem mw_X9_sizeOfGreatestPart__50 : (.initialized RX2 : Cond) ∈ wsX9_sizeOfGreatestPart := rl_wsX9_sizeOfGreatestPart_r3 _ (List.mem_of_getElem? (i := 1) rfl)
theorem mw_X9_sizeOfGreatestPart__51 : (.code yX2_rankIn cX2_rankIn 5 (some .int) : Cond) ∈ wsX9_sizeOfGreatestPart := rl_wsX9_sizeOfGreatestPart_r3 _ (List.mem_of_getElem? (i := 2) rfl)
theorem mw_X9_sizeOfGreatestPart__52 : (.fieldLink RX2 9 "BallPots$Draws" "step" "[I" : Cond) ∈ wsX9_sizeOfGreatestPart := rl_wsX9_sizeOfGreatestPart_r3 _ (List.mem_of_getElem? (i := 3) rfl)
theorem mw_X9_sizeOfGreatestPart__53 : (.fieldLink RX2 34 "BallPots$Draws" "ranks" "LBallPots$Ranks;" : Cond) ∈ wsX9_sizeOfGreatestPart := rl_wsX9_sizeOfGreatestPart_r3 _ (List.mem_of_getElem? (i := 4) rfl)
theorem mw_X9_sizeOfPart__1 : (.fieldLink RX9 61 "BallPots$Swaps" "queued" "I" : Cond) ∈ wsX9_sizeOfPart := List.mem_of_getElem? (i := 1) rfl
theorem mw_X9_sizeOfPart__2 : (.fieldLink RX9 22 "BallPots$Swaps" "draws" "LBallPots$Draws;" : Cond) ∈ wsX9_sizeOfPart := List.mem_of_getElem? (i := 2) rfl
theorem mw_X9_sizeOfPart__3 : (.fieldLink RX9 15 "BallPots$Swaps" "other" "[I" : Cond) ∈ wsX9_sizeOfPart := List.mem_of_getElem? (i := 3) rfl
theorem mw_X9_sizeOfPart__4 : (.methodLink RX9 80 yX9_meet : Cond) ∈ wsX9_sizeOfPart := List.mem_of_getElem? (i := 4) rfl
theorem mw_X9_sizeOfPart__5 : (.instanceMethod yX9_meet : Cond) ∈ wsX9_sizeOfPart := List.mem_of_getElem? (i := 5) rfl
theorem mw_X9_sizeOfPart__6 : (.selects RX9 yX9_meet yX9_meet : Cond) ∈ wsX9_sizeOfPart := List.mem_of_getElem? (i := 6) rfl
theorem mw_X9_sizeOfPart__7 : (.initialized RX9 : Cond) ∈ wsX9_sizeOfPart := List.mem_of_getElem? (i := 7) rfl
theorem mw_X9_sizeOfPart__8 : (.code yX9_meet cX9_meet 2 none : Cond) ∈ wsX9_sizeOfPart := List.mem_of_getElem? (i := 8) rfl
theorem mw_X9_sizeOfPart__9 : (.fieldLink RX9 9 "BallPots$Swaps" "rows" "[I" : Cond) ∈ wsX9_sizeOfPart := List.mem_of_getElem? (i := 9) rfl
theorem mw_X9_sizeOfPart__10 : (.methodLink RX9 84 yX9_meetSwapped : Cond) ∈ wsX9_sizeOfPart := List.mem_of_getElem? (i := 10) rfl
theorem mw_X9_sizeOfPart__11 : (.instanceMethod yX9_meetSwapped : Cond) ∈ wsX9_sizeOfPart := List.mem_of_getElem? (i := 11) rfl
theorem mw_X9_sizeOfPart__12 : (.selects RX9 yX9_meetSwapped yX9_meetSwapped : Cond) ∈ wsX9_sizeOfPart := List.mem_of_getElem? (i := 12) rfl
theorem mw_X9_sizeOfPart__13 : (.code yX9_meetSwapped cX9_meetSwapped 8 none : Cond) ∈ wsX9_sizeOfPart := List.mem_of_getElem? (i := 13) rfl
theorem mw_X9_sizeOfPart__14 : (.fieldLink RX9 32 "BallPots$Swaps" "ranks" "LBallPots$Ranks;" : Cond) ∈ wsX9_sizeOfPart := List.mem_of_getElem? (i := 14) rfl
theorem mw_X9_sizeOfPart__15 : (.methodLink RX9 99 yX2_rankIn : Cond) ∈ wsX9_sizeOfPart := List.mem_of_getElem? (i := 15) rfl
theorem mw_X9_sizeOfPart__16 : (.instanceMethod yX2_rankIn : Cond) ∈ wsX9_sizeOfPart := List.mem_of_getElem? (i := 16) rfl
theorem mw_X9_sizeOfPart__17 : (.selects RX2 yX2_rankIn yX2_rankIn : Cond) ∈ wsX9_sizeOfPart := List.mem_of_getElem? (i := 17) rfl
theorem mw_X9_sizeOfPart__18 : (.initialized RX2 : Cond) ∈ wsX9_sizeOfPart := List.mem_of_getElem? (i := 18) rfl
theorem mw_X9_sizeOfPart__19 : (.code yX2_rankIn cX2_rankIn 5 (some .int) : Cond) ∈ wsX9_sizeOfPart := List.mem_of_getElem? (i := 19) rfl
theorem mw_X9_sizeOfPart__20 : (.fieldLink RX2 9 "BallPots$Draws" "step" "[I" : Cond) ∈ wsX9_sizeOfPart := List.mem_of_getElem? (i := 20) rfl
theorem mw_X9_sizeOfPart__21 : (.fieldLink RX2 34 "BallPots$Draws" "ranks" "LBallPots$Ranks;" : Cond) ∈ wsX9_sizeOfPart := List.mem_of_getElem? (i := 21) rfl
theorem mw_X9_swapOnce__1 : (.fieldLink RX9 15 "BallPots$Swaps" "other" "[I" : Cond) ∈ wsX9_swapOnce := rl_wsX9_swapOnce_r1 _ (List.mem_of_getElem? (i := 0) rfl)
theorem mw_X9_swapOnce__2 : (.fieldLink RX9 22 "BallPots$Swaps" "draws" "LBallPots$Draws;" : Cond) ∈ wsX9_swapOnce := rl_wsX9_swapOnce_r1 _ (List.mem_of_getElem? (i := 1) rfl)
theorem mw_X9_swapOnce__3 : (.fieldLink RX9 9 "BallPots$Swaps" "rows" "[I" : Cond) ∈ wsX9_swapOnce := rl_wsX9_swapOnce_r1 _ (List.mem_of_getElem? (i := 2) rfl)
theorem mw_X9_swapOnce__4 : (.methodLink RX9 52 yJ7_fill_fda19 : Cond) ∈ wsX9_swapOnce := rl_wsX9_swapOnce_r1 _ (List.mem_of_getElem? (i := 3) rfl)
theorem mw_X9_swapOnce__5 : (.static yJ7_fill_fda19 : Cond) ∈ wsX9_swapOnce := rl_wsX9_swapOnce_r1 _ (List.mem_of_getElem? (i := 4) rfl)
theorem mw_X9_swapOnce__6 : (.initialized RJ7 : Cond) ∈ wsX9_swapOnce := rl_wsX9_swapOnce_r1 _ (List.mem_of_getElem? (i := 5) rfl)
theorem mw_X9_swapOnce__7 : (.code yJ7_fill_fda19 cJ7_fill_fda19 5 none : Cond) ∈ wsX9_swapOnce := rl_wsX9_swapOnce_r1 _ (List.mem_of_getElem? (i := 6) rfl)
theorem mw_X9_swapOnce__8 : (.methodLink RJ7 13 yJ7_rangeCheck_23922 : Cond) ∈ wsX9_swapOnce := rl_wsX9_swapOnce_r1 _ (List.mem_of_getElem? (i := 7) rfl)
theorem mw_X9_swapOnce__9 : (.static yJ7_rangeCheck_23922 : Cond) ∈ wsX9_swapOnce := rl_wsX9_swapOnce_r1 _ (List.mem_of_getElem? (i := 8) rfl)
theorem mw_X9_swapOnce__10 : (.code yJ7_rangeCheck_23922 cJ7_rangeCheck_23922 3 none : Cond) ∈ wsX9_swapOnce := rl_wsX9_swapOnce_r1 _ (List.mem_of_getElem? (i := 9) rfl)
theorem mw_X9_swapOnce__11 : (.classLink RJ7 68 RJx00060 : Cond) ∈ wsX9_swapOnce := rl_wsX9_swapOnce_r1 _ (List.mem_of_getElem? (i := 10) rfl)
theorem mw_X9_swapOnce__12 : (.instantiable RJx00060 6 : Cond) ∈ wsX9_swapOnce := rl_wsX9_swapOnce_r1 _ (List.mem_of_getElem? (i := 11) rfl)
theorem mw_X9_swapOnce__13 : (.initialized RJx00060 : Cond) ∈ wsX9_swapOnce := rl_wsX9_swapOnce_r1 _ (List.mem_of_getElem? (i := 12) rfl)
theorem mw_X9_swapOnce__14 : (.methodLink RX9 127 yX9_pass : Cond) ∈ wsX9_swapOnce := rl_wsX9_swapOnce_r1 _ (List.mem_of_getElem? (i := 13) rfl)
theorem mw_X9_swapOnce__15 : (.instanceMethod yX9_pass : Cond) ∈ wsX9_swapOnce := rl_wsX9_swapOnce_r1 _ (List.mem_of_getElem? (i := 14) rfl)
theorem mw_X9_swapOnce__16 : (.selects RX9 yX9_pass yX9_pass : Cond) ∈ wsX9_swapOnce := rl_wsX9_swapOnce_r1 _ (List.mem_of_getElem? (i := 15) rfl)
theorem mw_X9_swapOnce__17 : (.initialized RX9 : Cond) ∈ wsX9_swapOnce := rl_wsX9_swapOnce_r1 _ (List.mem_of_getElem? (i := 16) rfl)
theorem mw_X9_swapOnce__18 : (.code yX9_pass cX9_pass 9 none : Cond) ∈ wsX9_swapOnce := rl_wsX9_swapOnce_r1 _ (List.mem_of_getElem? (i := 17) rfl)
theorem mw_X9_swapOnce__19 : (.fieldLink RX9 32 "BallPots$Swaps" "ranks" "LBallPots$Ranks;" : Cond) ∈ wsX9_swapOnce := rl_wsX9_swapOnce_r1 _ (List.mem_of_getElem? (i := 18) rfl)
theorem mw_X9_swapOnce__20 : (.methodLink RX9 99 yX2_rankIn : Cond) ∈ wsX9_swapOnce := rl_wsX9_swapOnce_r1 _ (List.mem_of_getElem? (i := 19) rfl)
theorem mw_X9_swapOnce__21 : (.instanceMethod yX2_rankIn : Cond) ∈ wsX9_swapOnce := rl_wsX9_swapOnce_r1 _ (List.mem_of_getElem? (i := 20) rfl)
theorem mw_X9_swapOnce__22 : (.selects RX2 yX2_rankIn yX2_rankIn : Cond) ∈ wsX9_swapOnce := rl_wsX9_swapOnce_r1 _ (List.mem_of_getElem? (i := 21) rfl)
theorem mw_X9_swapOnce__23 : (.initialized RX2 : Cond) ∈ wsX9_swapOnce := rl_wsX9_swapOnce_r1 _ (List.mem_of_getElem? (i := 22) rfl)
theorem mw_X9_swapOnce__24 : (.code yX2_rankIn cX2_rankIn 5 (some .int) : Cond) ∈ wsX9_swapOnce := rl_wsX9_swapOnce_r1 _ (List.mem_of_getElem? (i := 23) rfl)
theorem mw_X9_swapOnce__25 : (.fieldLink RX2 9 "BallPots$Draws" "step" "[I" : Cond) ∈ wsX9_swapOnce := rl_wsX9_swapOnce_r2 _ (List.mem_of_getElem? (i := 0) rfl)
theorem mw_X9_swapOnce__26 : (.fieldLink RX2 34 "BallPots$Draws" "ranks" "LBallPots$Ranks;" : Cond) ∈ wsX9_swapOnce := rl_wsX9_swapOnce_r2 _ (List.mem_of_getElem? (i := 1) rfl)
theorem mw_X9_swapTimes__1 : (.fieldLink RX9 18 "BallPots$Swaps" "done" "I" : Cond) ∈ wsX9_swapTimes := rl_wsX9_swapTimes_r1 _ (List.mem_of_getElem? (i := 0) rfl)
theorem mw_X9_swapTimes__2 : (.fieldLink RX9 9 "BallPots$Swaps" "rows" "[I" : Cond) ∈ wsX9_swapTimes := rl_wsX9_swapTimes_r1 _ (List.mem_of_getElem? (i := 1) rfl)
theorem mw_X9_swapTimes__3 : (.fieldLink RX9 22 "BallPots$Swaps" "draws" "LBallPots$Draws;" : Cond) ∈ wsX9_swapTimes := rl_wsX9_swapTimes_r1 _ (List.mem_of_getElem? (i := 2) rfl)
theorem mw_X9_swapTimes__4 : (.methodLink RX9 58 yX9_clearRows : Cond) ∈ wsX9_swapTimes := rl_wsX9_swapTimes_r1 _ (List.mem_of_getElem? (i := 3) rfl)
theorem mw_X9_swapTimes__5 : (.instanceMethod yX9_clearRows : Cond) ∈ wsX9_swapTimes := rl_wsX9_swapTimes_r1 _ (List.mem_of_getElem? (i := 4) rfl)
theorem mw_X9_swapTimes__6 : (.selects RX9 yX9_clearRows yX9_clearRows : Cond) ∈ wsX9_swapTimes := rl_wsX9_swapTimes_r1 _ (List.mem_of_getElem? (i := 5) rfl)
theorem mw_X9_swapTimes__7 : (.initialized RX9 : Cond) ∈ wsX9_swapTimes := rl_wsX9_swapTimes_r1 _ (List.mem_of_getElem? (i := 6) rfl)
theorem mw_X9_swapTimes__8 : (.code yX9_clearRows cX9_clearRows 1 none : Cond) ∈ wsX9_swapTimes := rl_wsX9_swapTimes_r1 _ (List.mem_of_getElem? (i := 7) rfl)
theorem mw_X9_swapTimes__9 : (.arrayClass .int : Cond) ∈ wsX9_swapTimes := rl_wsX9_swapTimes_r1 _ (List.mem_of_getElem? (i := 8) rfl)
theorem mw_X9_swapTimes__10 : (.fieldLink RX9 15 "BallPots$Swaps" "other" "[I" : Cond) ∈ wsX9_swapTimes := rl_wsX9_swapTimes_r1 _ (List.mem_of_getElem? (i := 9) rfl)
theorem mw_X9_swapTimes__11 : (.methodLink RX9 52 yJ7_fill_fda19 : Cond) ∈ wsX9_swapTimes := rl_wsX9_swapTimes_r1 _ (List.mem_of_getElem? (i := 10) rfl)
theorem mw_X9_swapTimes__12 : (.static yJ7_fill_fda19 : Cond) ∈ wsX9_swapTimes := rl_wsX9_swapTimes_r1 _ (List.mem_of_getElem? (i := 11) rfl)
theorem mw_X9_swapTimes__13 : (.initialized RJ7 : Cond) ∈ wsX9_swapTimes := rl_wsX9_swapTimes_r1 _ (List.mem_of_getElem? (i := 12) rfl)
theorem mw_X9_swapTimes__14 : (.code yJ7_fill_fda19 cJ7_fill_fda19 5 none : Cond) ∈ wsX9_swapTimes := rl_wsX9_swapTimes_r1 _ (List.mem_of_getElem? (i := 13) rfl)
theorem mw_X9_swapTimes__15 : (.methodLink RJ7 13 yJ7_rangeCheck_23922 : Cond) ∈ wsX9_swapTimes := rl_wsX9_swapTimes_r1 _ (List.mem_of_getElem? (i := 14) rfl)
theorem mw_X9_swapTimes__16 : (.static yJ7_rangeCheck_23922 : Cond) ∈ wsX9_swapTimes := rl_wsX9_swapTimes_r1 _ (List.mem_of_getElem? (i := 15) rfl)
theorem mw_X9_swapTimes__17 : (.code yJ7_rangeCheck_23922 cJ7_rangeCheck_23922 3 none : Cond) ∈ wsX9_swapTimes := rl_wsX9_swapTimes_r1 _ (List.mem_of_getElem? (i := 16) rfl)
theorem mw_X9_swapTimes__18 : (.classLink RJ7 68 RJx00060 : Cond) ∈ wsX9_swapTimes := rl_wsX9_swapTimes_r1 _ (List.mem_of_getElem? (i := 17) rfl)
theorem mw_X9_swapTimes__19 : (.instantiable RJx00060 6 : Cond) ∈ wsX9_swapTimes := rl_wsX9_swapTimes_r1 _ (List.mem_of_getElem? (i := 18) rfl)
theorem mw_X9_swapTimes__20 : (.initialized RJx00060 : Cond) ∈ wsX9_swapTimes := rl_wsX9_swapTimes_r1 _ (List.mem_of_getElem? (i := 19) rfl)
theorem mw_X9_swapTimes__21 : (.methodLink RX9 124 yX9_swapOnce : Cond) ∈ wsX9_swapTimes := rl_wsX9_swapTimes_r1 _ (List.mem_of_getElem? (i := 20) rfl)
theorem mw_X9_swapTimes__22 : (.instanceMethod yX9_swapOnce : Cond) ∈ wsX9_swapTimes := rl_wsX9_swapTimes_r1 _ (List.mem_of_getElem? (i := 21) rfl)
theorem mw_X9_swapTimes__23 : (.selects RX9 yX9_swapOnce yX9_swapOnce : Cond) ∈ wsX9_swapTimes := rl_wsX9_swapTimes_r1 _ (List.mem_of_getElem? (i := 22) rfl)
theorem mw_X9_swapTimes__24 : (.code yX9_swapOnce cX9_swapOnce 3 none : Cond) ∈ wsX9_swapTimes := rl_wsX9_swapTimes_r1 _ (List.mem_of_getElem? (i := 23) rfl)
theorem mw_X9_swapTimes__25 : (.methodLink RX9 127 yX9_pass : Cond) ∈ wsX9_swapTimes := rl_wsX9_swapTimes_r2 _ (List.mem_of_getElem? (i := 0) rfl)
theorem mw_X9_swapTimes__26 : (.instanceMethod yX9_pass : Cond) ∈ wsX9_swapTimes := rl_wsX9_swapTimes_r2 _ (List.mem_of_getElem? (i := 1) rfl)
theorem mw_X9_swapTimes__27 : (.selects RX9 yX9_pass yX9_pass : Cond) ∈ wsX9_swapTimes := rl_wsX9_swapTimes_r2 _ (List.mem_of_getElem? (i := 2) rfl)
theorem mw_X9_swapTimes__28 : (.code yX9_pass cX9_pass 9 none : Cond) ∈ wsX9_swapTimes := rl_wsX9_swapTimes_r2 _ (List.mem_of_getElem? (i := 3) rfl)
theorem mw_X9_swapTimes__29 : (.fieldLink RX9 32 "BallPots$Swaps" "ranks" "LBallPots$Ranks;" : Cond) ∈ wsX9_swapTimes := rl_wsX9_swapTimes_r2 _ (List.mem_of_getElem? (i := 4) rfl)
theorem mw_X9_swapTimes__30 : (.methodLink RX9 99 yX2_rankIn : Cond) ∈ wsX9_swapTimes := rl_wsX9_swapTimes_r2 _ (List.mem_of_getElem? (i := 5) rfl)
theorem mw_X9_swapTimes__31 : (.instanceMethod yX2_rankIn : Cond) ∈ wsX9_swapTimes := rl_wsX9_swapTimes_r2 _ (List.mem_of_getElem? (i := 6) rfl)
theorem mw_X9_swapTimes__32 : (.selects RX2 yX2_rankIn yX2_rankIn : Cond) ∈ wsX9_swapTimes := rl_wsX9_swapTimes_r2 _ (List.mem_of_getElem? (i := 7) rfl)
theorem mw_X9_swapTimes__33 : (.initialized RX2 : Cond) ∈ wsX9_swapTimes := rl_wsX9_swapTimes_r2 _ (List.mem_of_getElem? (i := 8) rfl)
theorem mw_X9_swapTimes__34 : (.code yX2_rankIn cX2_rankIn 5 (some .int) : Cond) ∈ wsX9_swapTimes := rl_wsX9_swapTimes_r2 _ (List.mem_of_getElem? (i := 9) rfl)
theorem mw_X9_swapTimes__35 : (.fieldLink RX2 9 "BallPots$Draws" "step" "[I" : Cond) ∈ wsX9_swapTimes := rl_wsX9_swapTimes_r2 _ (List.mem_of_getElem? (i := 10) rfl)
theorem mw_X9_swapTimes__36 : (.fieldLink RX2 34 "BallPots$Draws" "ranks" "LBallPots$Ranks;" : Cond) ∈ wsX9_swapTimes := rl_wsX9_swapTimes_r2 _ (List.mem_of_getElem? (i := 11) rfl)
theorem mw_X9_uneven__1 : (.fieldLink RX9 22 "BallPots$Swaps" "draws" "LBallPots$Draws;" : Cond) ∈ wsX9_uneven := rl_wsX9_uneven_r1 _ (List.mem_of_getElem? (i := 0) rfl)
theorem mw_X9_uneven__2 : (.fieldLink RX9 9 "BallPots$Swaps" "rows" "[I" : Cond) ∈ wsX9_uneven := rl_wsX9_uneven_r1 _ (List.mem_of_getElem? (i := 1) rfl)
theorem mw_X9_uneven__3 : (.methodLink RX9 120 Lib.MathLoose.abs_long.x : Cond) ∈ wsX9_uneven := rl_wsX9_uneven_r1 _ (List.mem_of_getElem? (i := 2) rfl)
theorem mw_X9_uneven__4 : (.static Lib.MathLoose.abs_long.x : Cond) ∈ wsX9_uneven := rl_wsX9_uneven_r1 _ (List.mem_of_getElem? (i := 3) rfl)
theorem mw_X9_uneven__5 : (.initialized "java/lang/Math" : Cond) ∈ wsX9_uneven := rl_wsX9_uneven_r1 _ (List.mem_of_getElem? (i := 4) rfl)
theorem mw_X9_uneven__6 : (.code Lib.MathLoose.abs_long.x Lib.MathLoose.abs_long.code 2 (some .long) : Cond) ∈ wsX9_uneven := rl_wsX9_uneven_r1 _ (List.mem_of_getElem? (i := 5) rfl)
theorem mw_X9_uneven__7 : (.methodLink RX9 113 yX9_swapTimes : Cond) ∈ wsX9_uneven := rl_wsX9_uneven_r1 _ (List.mem_of_getElem? (i := 6) rfl)
theorem mw_X9_uneven__8 : (.instanceMethod yX9_swapTimes : Cond) ∈ wsX9_uneven := rl_wsX9_uneven_r1 _ (List.mem_of_getElem? (i := 7) rfl)
theorem mw_X9_uneven__9 : (.selects RX9 yX9_swapTimes yX9_swapTimes : Cond) ∈ wsX9_uneven := rl_wsX9_uneven_r1 _ (List.mem_of_getElem? (i := 8) rfl)
theorem mw_X9_uneven__10 : (.initialized RX9 : Cond) ∈ wsX9_uneven := rl_wsX9_uneven_r1 _ (List.mem_of_getElem? (i := 9) rfl)
theorem mw_X9_uneven__11 : (.code yX9_swapTimes cX9_swapTimes 3 none : Cond) ∈ wsX9_uneven := rl_wsX9_uneven_r1 _ (List.mem_of_getElem? (i := 10) rfl)
theorem mw_X9_uneven__12 : (.fieldLink RX9 18 "BallPots$Swaps" "done" "I" : Cond) ∈ wsX9_uneven := rl_wsX9_uneven_r1 _ (List.mem_of_getElem? (i := 11) rfl)
theorem mw_X9_uneven__13 : (.methodLink RX9 58 yX9_clearRows : Cond) ∈ wsX9_uneven := rl_wsX9_uneven_r1 _ (List.mem_of_getElem? (i := 12) rfl)
theorem mw_X9_uneven__14 : (.instanceMethod yX9_clearRows : Cond) ∈ wsX9_uneven := rl_wsX9_uneven_r1 _ (List.mem_of_getElem? (i := 13) rfl)
theorem mw_X9_uneven__15 : (.selects RX9 yX9_clearRows yX9_clearRows : Cond) ∈ wsX9_uneven := rl_wsX9_uneven_r1 _ (List.mem_of_getElem? (i := 14) rfl)
theorem mw_X9_uneven__16 : (.code yX9_clearRows cX9_clearRows 1 none : Cond) ∈ wsX9_uneven := rl_wsX9_uneven_r1 _ (List.mem_of_getElem? (i := 15) rfl)
theorem mw_X9_uneven__17 : (.arrayClass .int : Cond) ∈ wsX9_uneven := rl_wsX9_uneven_r1 _ (List.mem_of_getElem? (i := 16) rfl)
theorem mw_X9_uneven__18 : (.fieldLink RX9 15 "BallPots$Swaps" "other" "[I" : Cond) ∈ wsX9_uneven := rl_wsX9_uneven_r1 _ (List.mem_of_getElem? (i := 17) rfl)
theorem mw_X9_uneven__19 : (.methodLink RX9 52 yJ7_fill_fda19 : Cond) ∈ wsX9_uneven := rl_wsX9_uneven_r1 _ (List.mem_of_getElem? (i := 18) rfl)
theorem mw_X9_uneven__20 : (.static yJ7_fill_fda19 : Cond) ∈ wsX9_uneven := rl_wsX9_uneven_r1 _ (List.mem_of_getElem? (i := 19) rfl)
theorem mw_X9_uneven__21 : (.initialized RJ7 : Cond) ∈ wsX9_uneven := rl_wsX9_uneven_r1 _ (List.mem_of_getElem? (i := 20) rfl)
theorem mw_X9_uneven__22 : (.code yJ7_fill_fda19 cJ7_fill_fda19 5 none : Cond) ∈ wsX9_uneven := rl_wsX9_uneven_r1 _ (List.mem_of_getElem? (i := 21) rfl)
theorem mw_X9_uneven__23 : (.methodLink RJ7 13 yJ7_rangeCheck_23922 : Cond) ∈ wsX9_uneven := rl_wsX9_uneven_r1 _ (List.mem_of_getElem? (i := 22) rfl)
theorem mw_X9_uneven__24 : (.static yJ7_rangeCheck_23922 : Cond) ∈ wsX9_uneven := rl_wsX9_uneven_r1 _ (List.mem_of_getElem? (i := 23) rfl)
theorem mw_X9_uneven__25 : (.code yJ7_rangeCheck_23922 cJ7_rangeCheck_23922 3 none : Cond) ∈ wsX9_uneven := rl_wsX9_uneven_r2 _ (List.mem_of_getElem? (i := 0) rfl)
theorem mw_X9_uneven__26 : (.classLink RJ7 68 RJx00060 : Cond) ∈ wsX9_uneven := rl_wsX9_uneven_r2 _ (List.mem_of_getElem? (i := 1) rfl)
theorem mw_X9_uneven__27 : (.instantiable RJx00060 6 : Cond) ∈ wsX9_uneven := rl_wsX9_uneven_r2 _ (List.mem_of_getElem? (i := 2) rfl)
theorem mw_X9_uneven__28 : (.initialized RJx00060 : Cond) ∈ wsX9_uneven := rl_wsX9_uneven_r2 _ (List.mem_of_getElem? (i := 3) rfl)
theorem mw_X9_uneven__29 : (.methodLink RX9 124 yX9_swapOnce : Cond) ∈ wsX9_uneven := rl_wsX9_uneven_r2 _ (List.mem_of_getElem? (i := 4) rfl)
theorem mw_X9_uneven__30 : (.instanceMethod yX9_swapOnce : Cond) ∈ wsX9_uneven := rl_wsX9_uneven_r2 _ (List.mem_of_getElem? (i := 5) rfl)
theorem mw_X9_uneven__31 : (.selects RX9 yX9_swapOnce yX9_swapOnce : Cond) ∈ wsX9_uneven := rl_wsX9_uneven_r2 _ (List.mem_of_getElem? (i := 6) rfl)
theorem mw_X9_uneven__32 : (.code yX9_swapOnce cX9_swapOnce 3 none : Cond) ∈ wsX9_uneven := rl_wsX9_uneven_r2 _ (List.mem_of_getElem? (i := 7) rfl)
theorem mw_X9_uneven__33 : (.methodLink RX9 127 yX9_pass : Cond) ∈ wsX9_uneven := rl_wsX9_uneven_r2 _ (List.mem_of_getElem? (i := 8) rfl)
theorem mw_X9_uneven__34 : (.instanceMethod yX9_pass : Cond) ∈ wsX9_uneven := rl_wsX9_uneven_r2 _ (List.mem_of_getElem? (i := 9) rfl)
theorem mw_X9_uneven__35 : (.selects RX9 yX9_pass yX9_pass : Cond) ∈ wsX9_uneven := rl_wsX9_uneven_r2 _ (List.mem_of_getElem? (i := 10) rfl)
theorem mw_X9_uneven__36 : (.code yX9_pass cX9_pass 9 none : Cond) ∈ wsX9_uneven := rl_wsX9_uneven_r2 _ (List.mem_of_getElem? (i := 11) rfl)
theorem mw_X9_uneven__37 : (.fieldLink RX9 32 "BallPots$Swaps" "ranks" "LBallPots$Ranks;" : Cond) ∈ wsX9_uneven := rl_wsX9_uneven_r2 _ (List.mem_of_getElem? (i := 12) rfl)
theorem mw_X9_uneven__38 : (.methodLink RX9 99 yX2_rankIn : Cond) ∈ wsX9_uneven := rl_wsX9_uneven_r2 _ (List.mem_of_getElem? (i := 13) rfl)
theorem mw_X9_uneven__39 : (.instanceMethod yX2_rankIn : Cond) ∈ wsX9_uneven := rl_wsX9_uneven_r2 _ (List.mem_of_getElem? (i := 14) rfl)
theorem mw_X9_uneven__40 : (.selects RX2 yX2_rankIn yX2_rankIn : Cond) ∈ wsX9_uneven := rl_wsX9_uneven_r2 _ (List.mem_of_getElem? (i := 15) rfl)
theorem mw_X9_uneven__41 : (.initialized RX2 : Cond) ∈ wsX9_uneven := rl_wsX9_uneven_r2 _ (List.mem_of_getElem? (i := 16) rfl)
theorem mw_X9_uneven__42 : (.code yX2_rankIn cX2_rankIn 5 (some .int) : Cond) ∈ wsX9_uneven := rl_wsX9_uneven_r2 _ (List.mem_of_getElem? (i := 17) rfl)
theorem mw_X9_uneven__43 : (.fieldLink RX2 9 "BallPots$Draws" "step" "[I" : Cond) ∈ wsX9_uneven := rl_wsX9_uneven_r2 _ (List.mem_of_getElem? (i := 18) rfl)
theorem mw_X9_uneven__44 : (.fieldLink RX2 34 "BallPots$Draws" "ranks" "LBallPots$Ranks;" : Cond) ∈ wsX9_uneven := rl_wsX9_uneven_r2 _ (List.mem_of_getElem? (i := 19) rfl)
theorem mw_X9_uneven__45 : (.methodLink RX9 116 yX9_allRows : Cond) ∈ wsX9_uneven := rl_wsX9_uneven_r2 _ (List.mem_of_getElem? (i := 20) rfl)
theorem mw_X9_uneven__46 : (.instanceMethod yX9_allRows : Cond) ∈ wsX9_uneven := rl_wsX9_uneven_r2 _ (List.mem_of_getElem? (i := 21) rfl)
theorem mw_X9_uneven__47 : (.selects RX9 yX9_allRows yX9_allRows : Cond) ∈ wsX9_uneven := rl_wsX9_uneven_r2 _ (List.mem_of_getElem? (i := 22) rfl)
theorem mw_X9_uneven__48 : (.code yX9_allRows cX9_allRows 7 (some .long) : Cond) ∈ wsX9_uneven := rl_wsX9_uneven_r2 _ (List.mem_of_getElem? (i := 23) rfl)
theorem gd_Jx00060 : wsJx000600.all goodWord = true := by decide +kernel
theorem gd_X0 : wsX00.all goodWord = true := by decide +kernel
theorem gd_X1 : wsX10.all goodWord = true := by decide +kernel
theorem gd_X10 : wsX100.all goodWord = true := by decide +kernel
theorem gd_X11 : wsX110.all goodWord = true := by decide +kernel
theorem gd_X2 : wsX20.all goodWord = true := by decide +kernel
theorem gd_X3 : wsX30.all goodWord = true := by decide +kernel
theorem gd_X4 : wsX40.all goodWord = true := by decide +kernel
theorem gd_X5 : wsX50.all goodWord = true := by decide +kernel
theorem gd_X6 : wsX60.all goodWord = true := by decide +kernel
theorem gd_X7 : wsX70.all goodWord = true := by decide +kernel
theorem gd_X8 : wsX80.all goodWord = true := by decide +kernel
theorem gd_X9 : wsX90.all goodWord = true := by decide +kernel
theorem iw_J7_fill_bad5a__Jx00060 : ∀ w ∈ wsJx000600, w ∈ wsJ7_fill_bad5a := fun _ h => List.mem_cons_of_mem _ (List.mem_append_right _ h)
theorem iw_J7_fill_fda19__Jx00060 : ∀ w ∈ wsJx000600, w ∈ wsJ7_fill_fda19 := fun _ h => List.mem_cons_of_mem _ (List.mem_append_right _ h)
theorem iw_X0_addDraw__X0 : ∀ w ∈ wsX00, w ∈ wsX0_addDraw := fun _ h => List.mem_cons_of_mem _ (List.mem_append_left _ (List.mem_append_left _ (List.mem_append_left _ (List.mem_append_right _ h))))
theorem iw_X0_addDraw__X2 : ∀ w ∈ wsX20, w ∈ wsX0_addDraw := fun _ h => List.mem_cons_of_mem _ (List.mem_append_right _ h)
theorem iw_X0_addDraw__X3 : ∀ w ∈ wsX30, w ∈ wsX0_addDraw := fun _ h => List.mem_cons_of_mem _ (List.mem_append_left _ (List.mem_append_left _ (List.mem_append_right _ h)))
theorem iw_X0_addDraw__X4 : ∀ w ∈ wsX40, w ∈ wsX0_addDraw := fun _ h => List.mem_cons_of_mem _ (List.mem_append_left _ (List.mem_append_right _ h))
theorem iw_X0_isEvenEnough__X0 : ∀ w ∈ wsX00, w ∈ wsX0_isEvenEnough := fun _ h => List.mem_cons_of_mem _ (List.mem_append_left _ (List.mem_append_left _ (List.mem_append_left _ (List.mem_append_right _ h))))
theorem iw_X0_isEvenEnough__X2 : ∀ w ∈ wsX20, w ∈ wsX0_isEvenEnough := fun _ h => List.mem_cons_of_mem _ (List.mem_append_left _ (List.mem_append_left _ (List.mem_append_right _ h)))
theorem iw_X0_isEvenEnough__X3 : ∀ w ∈ wsX30, w ∈ wsX0_isEvenEnough := fun _ h => List.mem_cons_of_mem _ (List.mem_append_left _ (List.mem_append_right _ h))
theorem iw_X0_isEvenEnough__X4 : ∀ w ∈ wsX40, w ∈ wsX0_isEvenEnough := fun _ h => List.mem_cons_of_mem _ (List.mem_append_right _ h)
theorem iw_X0_pairsWithout__X0 : ∀ w ∈ wsX00, w ∈ wsX0_pairsWithout := fun _ h => List.mem_cons_of_mem _ (List.mem_append_left _ (List.mem_append_left _ (List.mem_append_left _ (List.mem_append_right _ h))))
theorem iw_X0_pairsWithout__X2 : ∀ w ∈ wsX20, w ∈ wsX0_pairsWithout := fun _ h => List.mem_cons_of_mem _ (List.mem_append_left _ (List.mem_append_right _ h))
theorem iw_X0_pairsWithout__X3 : ∀ w ∈ wsX30, w ∈ wsX0_pairsWithout := fun _ h => List.mem_cons_of_mem _ (List.mem_append_left _ (List.mem_append_left _ (List.mem_append_right _ h)))
theorem iw_X0_pairsWithout__X4 : ∀ w ∈ wsX40, w ∈ wsX0_pairsWithout := fun _ h => List.mem_cons_of_mem _ (List.mem_append_right _ h)
theorem iw_X0_refresh__X0 : ∀ w ∈ wsX00, w ∈ wsX0_refresh := fun _ h => List.mem_cons_of_mem _ (List.mem_append_left _ (List.mem_append_left _ (List.mem_append_left _ (List.mem_append_right _ h))))
theorem iw_X0_refresh__X2 : ∀ w ∈ wsX20, w ∈ wsX0_refresh := fun _ h => List.mem_cons_of_mem _ (List.mem_append_left _ (List.mem_append_right _ h))
theorem iw_X0_refresh__X3 : ∀ w ∈ wsX30, w ∈ wsX0_refresh := fun _ h => List.mem_cons_of_mem _ (List.mem_append_left _ (List.mem_append_left _ (List.mem_append_right _ h)))
theorem iw_X0_refresh__X4 : ∀ w ∈ wsX40, w ∈ wsX0_refresh := fun _ h => List.mem_cons_of_mem _ (List.mem_append_right _ h)
theorem iw_X10_build__X10 : ∀ w ∈ wsX100, w ∈ wsX10_build := fun _ h => List.mem_cons_of_mem _ (List.mem_append_left _ (List.mem_append_left _ (List.mem_append_left _ (List.mem_append_right _ h))))
theorem iw_X10_build__X2 : ∀ w ∈ wsX20, w ∈ wsX10_build := fun _ h => List.mem_cons_of_mem _ (List.mem_append_left _ (List.mem_append_left _ (List.mem_append_right _ h)))
theorem iw_X10_build__X3 : ∀ w ∈ wsX30, w ∈ wsX10_build := fun _ h => List.mem_cons_of_mem _ (List.mem_append_left _ (List.mem_append_right _ h))
theorem iw_X10_build__X4 : ∀ w ∈ wsX40, w ∈ wsX10_build := fun _ h => List.mem_cons_of_mem _ (List.mem_append_right _ h)
theorem iw_X10_codeOf__X10 : ∀ w ∈ wsX100, w ∈ wsX10_codeOf := fun _ h => List.mem_cons_of_mem _ (List.mem_append_left _ (List.mem_append_left _ (List.mem_append_right _ h)))
theorem iw_X10_codeOf__X2 : ∀ w ∈ wsX20, w ∈ wsX10_codeOf := fun _ h => List.mem_cons_of_mem _ (List.mem_append_left _ (List.mem_append_right _ h))
theorem iw_X10_codeOf__X4 : ∀ w ∈ wsX40, w ∈ wsX10_codeOf := fun _ h => List.mem_cons_of_mem _ (List.mem_append_right _ h)
theorem iw_X10_fillFromNext__X10 : ∀ w ∈ wsX100, w ∈ wsX10_fillFromNext := fun _ h => List.mem_cons_of_mem _ (List.mem_append_left _ (List.mem_append_left _ (List.mem_append_right _ h)))
theorem iw_X10_fillFromNext__X2 : ∀ w ∈ wsX20, w ∈ wsX10_fillFromNext := fun _ h => List.mem_cons_of_mem _ (List.mem_append_left _ (List.mem_append_right _ h))
theorem iw_X10_fillFromNext__X4 : ∀ w ∈ wsX40, w ∈ wsX10_fillFromNext := fun _ h => List.mem_cons_of_mem _ (List.mem_append_right _ h)
theorem iw_X10_fillLast__X10 : ∀ w ∈ wsX100, w ∈ wsX10_fillLast := fun _ h => List.mem_cons_of_mem _ (List.mem_append_left _ (List.mem_append_left _ (List.mem_append_left _ (List.mem_append_right _ h))))
theorem iw_X10_fillLast__X2 : ∀ w ∈ wsX20, w ∈ wsX10_fillLast := fun _ h => List.mem_cons_of_mem _ (List.mem_append_left _ (List.mem_append_left _ (List.mem_append_right _ h)))
theorem iw_X10_fillLast__X3 : ∀ w ∈ wsX30, w ∈ wsX10_fillLast := fun _ h => List.mem_cons_of_mem _ (List.mem_append_left _ (List.mem_append_right _ h))
theorem iw_X10_fillLast__X4 : ∀ w ∈ wsX40, w ∈ wsX10_fillLast := fun _ h => List.mem_cons_of_mem _ (List.mem_append_right _ h)
theorem iw_X10_ranksOpen__X10 : ∀ w ∈ wsX100, w ∈ wsX10_ranksOpen := fun _ h => List.mem_cons_of_mem _ (List.mem_append_right _ h)
theorem iw_X11_all__Jx00060 : ∀ w ∈ wsJx000600, w ∈ wsX11_all := fun _ h => List.mem_cons_of_mem _ (List.mem_append_right _ h)
theorem iw_X11_all__X1 : ∀ w ∈ wsX10, w ∈ wsX11_all := fun _ h => List.mem_cons_of_mem _ (List.mem_append_left _ (List.mem_append_left _ (List.mem_append_left _ (List.mem_append_left _ (List.mem_append_left _ (List.mem_append_left _ (List.mem_append_left _ (List.mem_append_right _ h))))))))
theorem iw_X11_all__X10 : ∀ w ∈ wsX100, w ∈ wsX11_all := fun _ h => List.mem_cons_of_mem _ (List.mem_append_left _ (List.mem_append_right _ h))
theorem iw_X11_all__X11 : ∀ w ∈ wsX110, w ∈ wsX11_all := fun _ h => List.mem_cons_of_mem _ (List.mem_append_left _ (List.mem_append_left _ (List.mem_append_left _ (List.mem_append_left _ (List.mem_append_left _ (List.mem_append_left _ (List.mem_append_left _ (List.mem_append_left _ (List.mem_append_left _ (List.mem_append_right _ h))))))))))
theorem iw_X11_all__X2 : ∀ w ∈ wsX20, w ∈ wsX11_all := fun _ h => List.mem_cons_of_mem _ (List.mem_append_left _ (List.mem_append_left _ (List.mem_append_left _ (List.mem_append_left _ (List.mem_append_left _ (List.mem_append_left _ (List.mem_append_left _ (List.mem_append_left _ (List.mem_append_right _ h)))))))))
theorem iw_X11_all__X3 : ∀ w ∈ wsX30, w ∈ wsX11_all := fun _ h => List.mem_cons_of_mem _ (List.mem_append_left _ (List.mem_append_left _ (List.mem_append_left _ (List.mem_append_right _ h))))
theorem iw_X11_all__X4 : ∀ w ∈ wsX40, w ∈ wsX11_all := fun _ h => List.mem_cons_of_mem _ (List.mem_append_left _ (List.mem_append_left _ (List.mem_append_left _ (List.mem_append_left _ (List.mem_append_right _ h)))))
theorem iw_X11_all__X6 : ∀ w ∈ wsX60, w ∈ wsX11_all := fun _ h => List.mem_cons_of_mem _ (List.mem_append_left _ (List.mem_append_left _ (List.mem_append_left _ (List.mem_append_left _ (List.mem_append_left _ (List.mem_append_right _ h))))))
theorem iw_X11_all__X7 : ∀ w ∈ wsX70, w ∈ wsX11_all := fun _ h => List.mem_cons_of_mem _ (List.mem_append_left _ (List.mem_append_left _ (List.mem_append_right _ h)))
theorem iw_X11_all__X8 : ∀ w ∈ wsX80, w ∈ wsX11_all := fun _ h => List.mem_cons_of_mem _ (List.mem_append_left _ (List.mem_append_left _ (List.mem_append_left _ (List.mem_append_left _ (List.mem_append_left _ (List.mem_append_left _ (List.mem_append_right _ h)))))))
theorem iw_X11_apartByArrangement__Jx00060 : ∀ w ∈ wsJx000600, w ∈ wsX11_apartByArrangement := fun _ h => List.mem_cons_of_mem _ (List.mem_append_right _ h)
theorem iw_X11_apartByArrangement__X1 : ∀ w ∈ wsX10, w ∈ wsX11_apartByArrangement := fun _ h => List.mem_cons_of_mem _ (List.mem_append_left _ (List.mem_append_right _ h))
theorem iw_X11_apartByArrangement__X10 : ∀ w ∈ wsX100, w ∈ wsX11_apartByArrangement := fun _ h => List.mem_cons_of_mem _ (List.mem_append_left _ (List.mem_append_left _ (List.mem_append_left _ (List.mem_append_left _ (List.mem_append_right _ h)))))
theorem iw_X11_apartByArrangement__X11 : ∀ w ∈ wsX110, w ∈ wsX11_apartByArrangement := fun _ h => List.mem_cons_of_mem _ (List.mem_append_left _ (List.mem_append_left _ (List.mem_append_left _ (List.mem_append_left _ (List.mem_append_left _ (List.mem_append_left _ (List.mem_append_left _ (List.mem_append_left _ (List.mem_append_left _ (List.mem_append_right _ h))))))))))
theorem iw_X11_apartByArrangement__X2 : ∀ w ∈ wsX20, w ∈ wsX11_apartByArrangement := fun _ h => List.mem_cons_of_mem _ (List.mem_append_left _ (List.mem_append_left _ (List.mem_append_right _ h)))
theorem iw_X11_apartByArrangement__X3 : ∀ w ∈ wsX30, w ∈ wsX11_apartByArrangement := fun _ h => List.mem_cons_of_mem _ (List.mem_append_left _ (List.mem_append_left _ (List.mem_append_left _ (List.mem_append_left _ (List.mem_append_left _ (List.mem_append_left _ (List.mem_append_right _ h)))))))
theorem iw_X11_apartByArrangement__X4 : ∀ w ∈ wsX40, w ∈ wsX11_apartByArrangement := fun _ h => List.mem_cons_of_mem _ (List.mem_append_left _ (List.mem_append_left _ (List.mem_append_left _ (List.mem_append_left _ (List.mem_append_left _ (List.mem_append_left _ (List.mem_append_left _ (List.mem_append_right _ h))))))))
theorem iw_X11_apartByArrangement__X6 : ∀ w ∈ wsX60, w ∈ wsX11_apartByArrangement := fun _ h => List.mem_cons_of_mem _ (List.mem_append_left _ (List.mem_append_left _ (List.mem_append_left _ (List.mem_append_left _ (List.mem_append_left _ (List.mem_append_left _ (List.mem_append_left _ (List.mem_append_left _ (List.mem_append_right _ h)))))))))
theorem iw_X11_apartByArrangement__X7 : ∀ w ∈ wsX70, w ∈ wsX11_apartByArrangement := fun _ h => List.mem_cons_of_mem _ (List.mem_append_left _ (List.mem_append_left _ (List.mem_append_left _ (List.mem_append_left _ (List.mem_append_left _ (List.mem_append_right _ h))))))
theorem iw_X11_apartByArrangement__X8 : ∀ w ∈ wsX80, w ∈ wsX11_apartByArrangement := fun _ h => List.mem_cons_of_mem _ (List.mem_append_left _ (List.mem_append_left _ (List.mem_append_left _ (List.mem_append_right _ h))))
theorem iw_X11_apartByOrder__Jx00060 : ∀ w ∈ wsJx000600, w ∈ wsX11_apartByOrder := fun _ h => List.mem_cons_of_mem _ (List.mem_append_right _ h)
theorem iw_X11_apartByOrder__X1 : ∀ w ∈ wsX10, w ∈ wsX11_apartByOrder := fun _ h => List.mem_cons_of_mem _ (List.mem_append_left _ (List.mem_append_right _ h))
theorem iw_X11_apartByOrder__X10 : ∀ w ∈ wsX100, w ∈ wsX11_apartByOrder := fun _ h => List.mem_cons_of_mem _ (List.mem_append_left _ (List.mem_append_left _ (List.mem_append_left _ (List.mem_append_left _ (List.mem_append_left _ (List.mem_append_left _ (List.mem_append_left _ (List.mem_append_right _ h))))))))
theorem iw_X11_apartByOrder__X11 : ∀ w ∈ wsX110, w ∈ wsX11_apartByOrder := fun _ h => List.mem_cons_of_mem _ (List.mem_append_left _ (List.mem_append_left _ (List.mem_append_left _ (List.mem_append_left _ (List.mem_append_left _ (List.mem_append_left _ (List.mem_append_left _ (List.mem_append_left _ (List.mem_append_left _ (List.mem_append_right _ h))))))))))
theorem iw_X11_apartByOrder__X2 : ∀ w ∈ wsX20, w ∈ wsX11_apartByOrder := fun _ h => List.mem_cons_of_mem _ (List.mem_append_left _ (List.mem_append_left _ (List.mem_append_left _ (List.mem_append_left _ (List.mem_append_left _ (List.mem_append_left _ (List.mem_append_right _ h)))))))
theorem iw_X11_apartByOrder__X3 : ∀ w ∈ wsX30, w ∈ wsX11_apartByOrder := fun _ h => List.mem_cons_of_mem _ (List.mem_append_left _ (List.mem_append_left _ (List.mem_append_left _ (List.mem_append_left _ (List.mem_append_left _ (List.mem_append_right _ h))))))
theorem iw_X11_apartByOrder__X4 : ∀ w ∈ wsX40, w ∈ wsX11_apartByOrder := fun _ h => List.mem_cons_of_mem _ (List.mem_append_left _ (List.mem_append_left _ (List.mem_append_left _ (List.mem_append_left _ (List.mem_append_right _ h)))))
theorem iw_X11_apartByOrder__X6 : ∀ w ∈ wsX60, w ∈ wsX11_apartByOrder := fun _ h => List.mem_cons_of_mem _ (List.mem_append_left _ (List.mem_append_left _ (List.mem_append_left _ (List.mem_append_right _ h))))
theorem iw_X11_apartByOrder__X7 : ∀ w ∈ wsX70, w ∈ wsX11_apartByOrder := fun _ h => List.mem_cons_of_mem _ (List.mem_append_left _ (List.mem_append_left _ (List.mem_append_right _ h)))
theorem iw_X11_apartByOrder__X8 : ∀ w ∈ wsX80, w ∈ wsX11_apartByOrder := fun _ h => List.mem_cons_of_mem _ (List.mem_append_left _ (List.mem_append_left _ (List.mem_append_left _ (List.mem_append_left _ (List.mem_append_left _ (List.mem_append_left _ (List.mem_append_left _ (List.mem_append_left _ (List.mem_append_right _ h)))))))))
theorem iw_X11_apart__Jx00060 : ∀ w ∈ wsJx000600, w ∈ wsX11_apart := fun _ h => List.mem_cons_of_mem _ (List.mem_append_right _ h)
theorem iw_X11_apart__X1 : ∀ w ∈ wsX10, w ∈ wsX11_apart := fun _ h => List.mem_cons_of_mem _ (List.mem_append_left _ (List.mem_append_left _ (List.mem_append_left _ (List.mem_append_left _ (List.mem_append_left _ (List.mem_append_left _ (List.mem_append_left _ (List.mem_append_right _ h))))))))
theorem iw_X11_apart__X10 : ∀ w ∈ wsX100, w ∈ wsX11_apart := fun _ h => List.mem_cons_of_mem _ (List.mem_append_left _ (List.mem_append_right _ h))
theorem iw_X11_apart__X11 : ∀ w ∈ wsX110, w ∈ wsX11_apart := fun _ h => List.mem_cons_of_mem _ (List.mem_append_left _ (List.mem_append_left _ (List.mem_append_left _ (List.mem_append_left _ (List.mem_append_left _ (List.mem_append_left _ (List.mem_append_left _ (List.mem_append_left _ (List.mem_append_left _ (List.mem_append_right _ h))))))))))
theorem iw_X11_apart__X2 : ∀ w ∈ wsX20, w ∈ wsX11_apart := fun _ h => List.mem_cons_of_mem _ (List.mem_append_left _ (List.mem_append_left _ (List.mem_append_left _ (List.mem_append_left _ (List.mem_append_left _ (List.mem_append_left _ (List.mem_append_left _ (List.mem_append_left _ (List.mem_append_right _ h)))))))))
theorem iw_X11_apart__X3 : ∀ w ∈ wsX30, w ∈ wsX11_apart := fun _ h => List.mem_cons_of_mem _ (List.mem_append_left _ (List.mem_append_left _ (List.mem_append_left _ (List.mem_append_right _ h))))
theorem iw_X11_apart__X4 : ∀ w ∈ wsX40, w ∈ wsX11_apart := fun _ h => List.mem_cons_of_mem _ (List.mem_append_left _ (List.mem_append_left _ (List.mem_append_left _ (List.mem_append_left _ (List.mem_append_right _ h)))))
theorem iw_X11_apart__X6 : ∀ w ∈ wsX60, w ∈ wsX11_apart := fun _ h => List.mem_cons_of_mem _ (List.mem_append_left _ (List.mem_append_left _ (List.mem_append_left _ (List.mem_append_left _ (List.mem_append_left _ (List.mem_append_right _ h))))))
theorem iw_X11_apart__X7 : ∀ w ∈ wsX70, w ∈ wsX11_apart := fun _ h => List.mem_cons_of_mem _ (List.mem_append_left _ (List.mem_append_left _ (List.mem_append_right _ h)))
theorem iw_X11_apart__X8 : ∀ w ∈ wsX80, w ∈ wsX11_apart := fun _ h => List.mem_cons_of_mem _ (List.mem_append_left _ (List.mem_append_left _ (List.mem_append_left _ (List.mem_append_left _ (List.mem_append_left _ (List.mem_append_left _ (List.mem_append_right _ h)))))))
theorem iw_X11_arrange__X1 : ∀ w ∈ wsX10, w ∈ wsX11_arrange := fun _ h => List.mem_cons_of_mem _ (List.mem_append_right _ h)
theorem iw_X11_arrange__X11 : ∀ w ∈ wsX110, w ∈ wsX11_arrange := fun _ h => List.mem_cons_of_mem _ (List.mem_append_left _ (List.mem_append_left _ (List.mem_append_left _ (List.mem_append_right _ h))))
theorem iw_X11_arrange__X3 : ∀ w ∈ wsX30, w ∈ wsX11_arrange := fun _ h => List.mem_cons_of_mem _ (List.mem_append_left _ (List.mem_append_left _ (List.mem_append_right _ h)))
theorem iw_X11_arrange__X8 : ∀ w ∈ wsX80, w ∈ wsX11_arrange := fun _ h => List.mem_cons_of_mem _ (List.mem_append_left _ (List.mem_append_right _ h))
theorem iw_X11_ball__X1 : ∀ w ∈ wsX10, w ∈ wsX11_ball := fun _ h => List.mem_cons_of_mem _ (List.mem_append_right _ h)
theorem iw_X11_ball__X10 : ∀ w ∈ wsX100, w ∈ wsX11_ball := fun _ h => List.mem_cons_of_mem _ (List.mem_append_left _ (List.mem_append_left _ (List.mem_append_right _ h)))
theorem iw_X11_ball__X11 : ∀ w ∈ wsX110, w ∈ wsX11_ball := fun _ h => List.mem_cons_of_mem _ (List.mem_append_left _ (List.mem_append_left _ (List.mem_append_left _ (List.mem_append_left _ (List.mem_append_left _ (List.mem_append_left _ (List.mem_append_right _ h)))))))
theorem iw_X11_ball__X2 : ∀ w ∈ wsX20, w ∈ wsX11_ball := fun _ h => List.mem_cons_of_mem _ (List.mem_append_left _ (List.mem_append_left _ (List.mem_append_left _ (List.mem_append_left _ (List.mem_append_left _ (List.mem_append_right _ h))))))
theorem iw_X11_ball__X3 : ∀ w ∈ wsX30, w ∈ wsX11_ball := fun _ h => List.mem_cons_of_mem _ (List.mem_append_left _ (List.mem_append_left _ (List.mem_append_left _ (List.mem_append_right _ h))))
theorem iw_X11_ball__X4 : ∀ w ∈ wsX40, w ∈ wsX11_ball := fun _ h => List.mem_cons_of_mem _ (List.mem_append_left _ (List.mem_append_right _ h))
theorem iw_X11_ball__X8 : ∀ w ∈ wsX80, w ∈ wsX11_ball := fun _ h => List.mem_cons_of_mem _ (List.mem_append_left _ (List.mem_append_left _ (List.mem_append_left _ (List.mem_append_left _ (List.mem_append_right _ h)))))
theorem iw_X11_beginAnew__Jx00060 : ∀ w ∈ wsJx000600, w ∈ wsX11_beginAnew := fun _ h => List.mem_cons_of_mem _ (List.mem_append_left _ (List.mem_append_left _ (List.mem_append_right _ h)))
theorem iw_X11_beginAnew__X0 : ∀ w ∈ wsX00, w ∈ wsX11_beginAnew := fun _ h => List.mem_cons_of_mem _ (List.mem_append_left _ (List.mem_append_left _ (List.mem_append_left _ (List.mem_append_left _ (List.mem_append_left _ (List.mem_append_right _ h))))))
theorem iw_X11_beginAnew__X1 : ∀ w ∈ wsX10, w ∈ wsX11_beginAnew := fun _ h => List.mem_cons_of_mem _ (List.mem_append_left _ (List.mem_append_left _ (List.mem_append_left _ (List.mem_append_left _ (List.mem_append_left _ (List.mem_append_left _ (List.mem_append_right _ h)))))))
theorem iw_X11_beginAnew__X10 : ∀ w ∈ wsX100, w ∈ wsX11_beginAnew := fun _ h => List.mem_cons_of_mem _ (List.mem_append_left _ (List.mem_append_left _ (List.mem_append_left _ (List.mem_append_left _ (List.mem_append_left _ (List.mem_append_left _ (List.mem_append_left _ (List.mem_append_right _ h))))))))
theorem iw_X11_beginAnew__X11 : ∀ w ∈ wsX110, w ∈ wsX11_beginAnew := fun _ h => List.mem_cons_of_mem _ (List.mem_append_left _ (List.mem_append_left _ (List.mem_append_left _ (List.mem_append_left _ (List.mem_append_left _ (List.mem_append_left _ (List.mem_append_left _ (List.mem_append_left _ (List.mem_append_left _ (List.mem_append_right _ h))))))))))
theorem iw_X11_beginAnew__X2 : ∀ w ∈ wsX20, w ∈ wsX11_beginAnew := fun _ h => List.mem_cons_of_mem _ (List.mem_append_left _ (List.mem_append_left _ (List.mem_append_left _ (List.mem_append_right _ h))))
theorem iw_X11_beginAnew__X3 : ∀ w ∈ wsX30, w ∈ wsX11_beginAnew := fun _ h => List.mem_cons_of_mem _ (List.mem_append_left _ (List.mem_append_left _ (List.mem_append_left _ (List.mem_append_left _ (List.mem_append_left _ (List.mem_append_left _ (List.mem_append_left _ (List.mem_append_left _ (List.mem_append_right _ h)))))))))
theorem iw_X11_beginAnew__X4 : ∀ w ∈ wsX40, w ∈ wsX11_beginAnew := fun _ h => List.mem_cons_of_mem _ (List.mem_append_left _ (List.mem_append_left _ (List.mem_append_left _ (List.mem_append_left _ (List.mem_append_right _ h)))))
theorem iw_X11_beginAnew__X8 : ∀ w ∈ wsX80, w ∈ wsX11_beginAnew := fun _ h => List.mem_cons_of_mem _ (List.mem_append_left _ (List.mem_append_right _ h))
theorem iw_X11_beginAnew__X9 : ∀ w ∈ wsX90, w ∈ wsX11_beginAnew := fun _ h => List.mem_cons_of_mem _ (List.mem_append_right _ h)
theorem iw_X11_blame__X11 : ∀ w ∈ wsX110, w ∈ wsX11_blame := fun _ h => List.mem_cons_of_mem _ (List.mem_append_left _ (List.mem_append_left _ (List.mem_append_left _ (List.mem_append_left _ (List.mem_append_right _ h)))))
theorem iw_X11_blame__X2 : ∀ w ∈ wsX20, w ∈ wsX11_blame := fun _ h => List.mem_cons_of_mem _ (List.mem_append_right _ h)
theorem iw_X11_blame__X3 : ∀ w ∈ wsX30, w ∈ wsX11_blame := fun _ h => List.mem_cons_of_mem _ (List.mem_append_left _ (List.mem_append_left _ (List.mem_append_right _ h)))
theorem iw_X11_blame__X4 : ∀ w ∈ wsX40, w ∈ wsX11_blame := fun _ h => List.mem_cons_of_mem _ (List.mem_append_left _ (List.mem_append_right _ h))
theorem iw_X11_blame__X8 : ∀ w ∈ wsX80, w ∈ wsX11_blame := fun _ h => List.mem_cons_of_mem _ (List.mem_append_left _ (List.mem_append_left _ (List.mem_append_left _ (List.mem_append_right _ h))))
theorem iw_X11_chancesAtStart__Jx00060 : ∀ w ∈ wsJx000600, w ∈ wsX11_chancesAtStart := fun _ h => List.mem_cons_of_mem _ (List.mem_append_right _ h)
theorem iw_X11_chancesAtStart__X1 : ∀ w ∈ wsX10, w ∈ wsX11_chancesAtStart := fun _ h => List.mem_cons_of_mem _ (List.mem_append_left _ (List.mem_append_left _ (List.mem_append_left _ (List.mem_append_left _ (List.mem_append_left _ (List.mem_append_left _ (List.mem_append_left _ (List.mem_append_left _ (List.mem_append_right _ h)))))))))
theorem iw_X11_chancesAtStart__X10 : ∀ w ∈ wsX100, w ∈ wsX11_chancesAtStart := fun _ h => List.mem_cons_of_mem _ (List.mem_append_left _ (List.mem_append_left _ (List.mem_append_right _ h)))
theorem iw_X11_chancesAtStart__X11 : ∀ w ∈ wsX110, w ∈ wsX11_chancesAtStart := fun _ h => List.mem_cons_of_mem _ (List.mem_append_left _ (List.mem_append_left _ (List.mem_append_left _ (List.mem_append_left _ (List.mem_append_left _ (List.mem_append_left _ (List.mem_append_left _ (List.mem_append_left _ (List.mem_append_left _ (List.mem_append_right _ h))))))))))
theorem iw_X11_chancesAtStart__X2 : ∀ w ∈ wsX20, w ∈ wsX11_chancesAtStart := fun _ h => List.mem_cons_of_mem _ (List.mem_append_left _ (List.mem_append_right _ h))
theorem iw_X11_chancesAtStart__X3 : ∀ w ∈ wsX30, w ∈ wsX11_chancesAtStart := fun _ h => List.mem_cons_of_mem _ (List.mem_append_left _ (List.mem_append_left _ (List.mem_append_left _ (List.mem_append_left _ (List.mem_append_right _ h)))))
theorem iw_X11_chancesAtStart__X4 : ∀ w ∈ wsX40, w ∈ wsX11_chancesAtStart := fun _ h => List.mem_cons_of_mem _ (List.mem_append_left _ (List.mem_append_left _ (List.mem_append_left _ (List.mem_append_left _ (List.mem_append_left _ (List.mem_append_right _ h))))))
theorem iw_X11_chancesAtStart__X6 : ∀ w ∈ wsX60, w ∈ wsX11_chancesAtStart := fun _ h => List.mem_cons_of_mem _ (List.mem_append_left _ (List.mem_append_left _ (List.mem_append_left _ (List.mem_append_left _ (List.mem_append_left _ (List.mem_append_left _ (List.mem_append_right _ h)))))))
theorem iw_X11_chancesAtStart__X7 : ∀ w ∈ wsX70, w ∈ wsX11_chancesAtStart := fun _ h => List.mem_cons_of_mem _ (List.mem_append_left _ (List.mem_append_left _ (List.mem_append_left _ (List.mem_append_right _ h))))
theorem iw_X11_chancesAtStart__X8 : ∀ w ∈ wsX80, w ∈ wsX11_chancesAtStart := fun _ h => List.mem_cons_of_mem _ (List.mem_append_left _ (List.mem_append_left _ (List.mem_append_left _ (List.mem_append_left _ (List.mem_append_left _ (List.mem_append_left _ (List.mem_append_left _ (List.mem_append_right _ h))))))))
theorem iw_X11_chancesNow__Jx00060 : ∀ w ∈ wsJx000600, w ∈ wsX11_chancesNow := fun _ h => List.mem_cons_of_mem _ (List.mem_append_right _ h)
theorem iw_X11_chancesNow__X1 : ∀ w ∈ wsX10, w ∈ wsX11_chancesNow := fun _ h => List.mem_cons_of_mem _ (List.mem_append_left _ (List.mem_append_left _ (List.mem_append_left _ (List.mem_append_left _ (List.mem_append_left _ (List.mem_append_left _ (List.mem_append_left _ (List.mem_append_right _ h))))))))
theorem iw_X11_chancesNow__X10 : ∀ w ∈ wsX100, w ∈ wsX11_chancesNow := fun _ h => List.mem_cons_of_mem _ (List.mem_append_left _ (List.mem_append_left _ (List.mem_append_right _ h)))
theorem iw_X11_chancesNow__X11 : ∀ w ∈ wsX110, w ∈ wsX11_chancesNow := fun _ h => List.mem_cons_of_mem _ (List.mem_append_left _ (List.mem_append_left _ (List.mem_append_left _ (List.mem_append_left _ (List.mem_append_left _ (List.mem_append_left _ (List.mem_append_left _ (List.mem_append_left _ (List.mem_append_left _ (List.mem_append_right _ h))))))))))
theorem iw_X11_chancesNow__X2 : ∀ w ∈ wsX20, w ∈ wsX11_chancesNow := fun _ h => List.mem_cons_of_mem _ (List.mem_append_left _ (List.mem_append_right _ h))
theorem iw_X11_chancesNow__X3 : ∀ w ∈ wsX30, w ∈ wsX11_chancesNow := fun _ h => List.mem_cons_of_mem _ (List.mem_append_left _ (List.mem_append_left _ (List.mem_append_left _ (List.mem_append_left _ (List.mem_append_right _ h)))))
theorem iw_X11_chancesNow__X4 : ∀ w ∈ wsX40, w ∈ wsX11_chancesNow := fun _ h => List.mem_cons_of_mem _ (List.mem_append_left _ (List.mem_append_left _ (List.mem_append_left _ (List.mem_append_left _ (List.mem_append_left _ (List.mem_append_right _ h))))))
theorem iw_X11_chancesNow__X6 : ∀ w ∈ wsX60, w ∈ wsX11_chancesNow := fun _ h => List.mem_cons_of_mem _ (List.mem_append_left _ (List.mem_append_left _ (List.mem_append_left _ (List.mem_append_left _ (List.mem_append_left _ (List.mem_append_left _ (List.mem_append_right _ h)))))))
theorem iw_X11_chancesNow__X7 : ∀ w ∈ wsX70, w ∈ wsX11_chancesNow := fun _ h => List.mem_cons_of_mem _ (List.mem_append_left _ (List.mem_append_left _ (List.mem_append_left _ (List.mem_append_right _ h))))
theorem iw_X11_chancesNow__X8 : ∀ w ∈ wsX80, w ∈ wsX11_chancesNow := fun _ h => List.mem_cons_of_mem _ (List.mem_append_left _ (List.mem_append_left _ (List.mem_append_left _ (List.mem_append_left _ (List.mem_append_left _ (List.mem_append_left _ (List.mem_append_left _ (List.mem_append_left _ (List.mem_append_right _ h)))))))))
theorem iw_X11_clear__X1 : ∀ w ∈ wsX10, w ∈ wsX11_clear := fun _ h => List.mem_cons_of_mem _ (List.mem_append_right _ h)
theorem iw_X11_clear__X11 : ∀ w ∈ wsX110, w ∈ wsX11_clear := fun _ h => List.mem_cons_of_mem _ (List.mem_append_left _ (List.mem_append_left _ (List.mem_append_right _ h)))
theorem iw_X11_clear__X8 : ∀ w ∈ wsX80, w ∈ wsX11_clear := fun _ h => List.mem_cons_of_mem _ (List.mem_append_left _ (List.mem_append_right _ h))
theorem iw_X11_count__X11 : ∀ w ∈ wsX110, w ∈ wsX11_count := fun _ h => List.mem_cons_of_mem _ (List.mem_append_left _ (List.mem_append_left _ (List.mem_append_left _ (List.mem_append_right _ h))))
theorem iw_X11_count__X2 : ∀ w ∈ wsX20, w ∈ wsX11_count := fun _ h => List.mem_cons_of_mem _ (List.mem_append_right _ h)
theorem iw_X11_count__X3 : ∀ w ∈ wsX30, w ∈ wsX11_count := fun _ h => List.mem_cons_of_mem _ (List.mem_append_left _ (List.mem_append_left _ (List.mem_append_right _ h)))
theorem iw_X11_count__X8 : ∀ w ∈ wsX80, w ∈ wsX11_count := fun _ h => List.mem_cons_of_mem _ (List.mem_append_left _ (List.mem_append_right _ h))
theorem iw_X11_draw__X11 : ∀ w ∈ wsX110, w ∈ wsX11_draw := fun _ h => List.mem_cons_of_mem _ (List.mem_append_left _ (List.mem_append_left _ (List.mem_append_left _ (List.mem_append_right _ h))))
theorem iw_X11_draw__X2 : ∀ w ∈ wsX20, w ∈ wsX11_draw := fun _ h => List.mem_cons_of_mem _ (List.mem_append_left _ (List.mem_append_left _ (List.mem_append_right _ h)))
theorem iw_X11_draw__X3 : ∀ w ∈ wsX30, w ∈ wsX11_draw := fun _ h => List.mem_cons_of_mem _ (List.mem_append_left _ (List.mem_append_right _ h))
theorem iw_X11_draw__X4 : ∀ w ∈ wsX40, w ∈ wsX11_draw := fun _ h => List.mem_cons_of_mem _ (List.mem_append_right _ h)
theorem iw_X11_ends__X11 : ∀ w ∈ wsX110, w ∈ wsX11_ends := fun _ h => List.mem_cons_of_mem _ (List.mem_append_left _ (List.mem_append_left _ (List.mem_append_left _ (List.mem_append_left _ (List.mem_append_right _ h)))))
theorem iw_X11_ends__X2 : ∀ w ∈ wsX20, w ∈ wsX11_ends := fun _ h => List.mem_cons_of_mem _ (List.mem_append_right _ h)
theorem iw_X11_ends__X3 : ∀ w ∈ wsX30, w ∈ wsX11_ends := fun _ h => List.mem_cons_of_mem _ (List.mem_append_left _ (List.mem_append_left _ (List.mem_append_right _ h)))
theorem iw_X11_ends__X4 : ∀ w ∈ wsX40, w ∈ wsX11_ends := fun _ h => List.mem_cons_of_mem _ (List.mem_append_left _ (List.mem_append_right _ h))
theorem iw_X11_ends__X8 : ∀ w ∈ wsX80, w ∈ wsX11_ends := fun _ h => List.mem_cons_of_mem _ (List.mem_append_left _ (List.mem_append_left _ (List.mem_append_left _ (List.mem_append_right _ h))))
theorem iw_X11_evenly__X11 : ∀ w ∈ wsX110, w ∈ wsX11_evenly := fun _ h => List.mem_cons_of_mem _ (List.mem_append_left _ (List.mem_append_right _ h))
theorem iw_X11_evenly__X2 : ∀ w ∈ wsX20, w ∈ wsX11_evenly := fun _ h => List.mem_cons_of_mem _ (List.mem_append_right _ h)
theorem iw_X11_far__X1 : ∀ w ∈ wsX10, w ∈ wsX11_far := fun _ h => List.mem_cons_of_mem _ (List.mem_append_right _ h)
theorem iw_X11_farthest__X1 : ∀ w ∈ wsX10, w ∈ wsX11_farthest := fun _ h => List.mem_cons_of_mem _ (List.mem_append_right _ h)
theorem iw_X11_farthest__X11 : ∀ w ∈ wsX110, w ∈ wsX11_farthest := fun _ h => List.mem_cons_of_mem _ (List.mem_append_left _ (List.mem_append_left _ (List.mem_append_right _ h)))
theorem iw_X11_farthest__X3 : ∀ w ∈ wsX30, w ∈ wsX11_farthest := fun _ h => List.mem_cons_of_mem _ (List.mem_append_left _ (List.mem_append_right _ h))
theorem iw_X11_fault__X11 : ∀ w ∈ wsX110, w ∈ wsX11_fault := fun _ h => List.mem_cons_of_mem _ (List.mem_append_left _ (List.mem_append_right _ h))
theorem iw_X11_fault__X5 : ∀ w ∈ wsX50, w ∈ wsX11_fault := fun _ h => List.mem_cons_of_mem _ (List.mem_append_right _ h)
theorem iw_X11_feed__X11 : ∀ w ∈ wsX110, w ∈ wsX11_feed := fun _ h => List.mem_cons_of_mem _ (List.mem_append_right _ h)
theorem iw_X11_findNearest__Jx00060 : ∀ w ∈ wsJx000600, w ∈ wsX11_findNearest := fun _ h => List.mem_cons_of_mem _ (List.mem_append_right _ h)
theorem iw_X11_findNearest__X1 : ∀ w ∈ wsX10, w ∈ wsX11_findNearest := fun _ h => List.mem_cons_of_mem _ (List.mem_append_left _ (List.mem_append_right _ h))
theorem iw_X11_findNearest__X10 : ∀ w ∈ wsX100, w ∈ wsX11_findNearest := fun _ h => List.mem_cons_of_mem _ (List.mem_append_left _ (List.mem_append_left _ (List.mem_append_left _ (List.mem_append_left _ (List.mem_append_left _ (List.mem_append_left _ (List.mem_append_right _ h)))))))
theorem iw_X11_findNearest__X11 : ∀ w ∈ wsX110, w ∈ wsX11_findNearest := fun _ h => List.mem_cons_of_mem _ (List.mem_append_left _ (List.mem_append_left _ (List.mem_append_left _ (List.mem_append_left _ (List.mem_append_left _ (List.mem_append_left _ (List.mem_append_left _ (List.mem_append_left _ (List.mem_append_left _ (List.mem_append_right _ h))))))))))
theorem iw_X11_findNearest__X2 : ∀ w ∈ wsX20, w ∈ wsX11_findNearest := fun _ h => List.mem_cons_of_mem _ (List.mem_append_left _ (List.mem_append_left _ (List.mem_append_left _ (List.mem_append_left _ (List.mem_append_left _ (List.mem_append_right _ h))))))
theorem iw_X11_findNearest__X3 : ∀ w ∈ wsX30, w ∈ wsX11_findNearest := fun _ h => List.mem_cons_of_mem _ (List.mem_append_left _ (List.mem_append_left _ (List.mem_append_left _ (List.mem_append_left _ (List.mem_append_left _ (List.mem_append_left _ (List.mem_append_left _ (List.mem_append_left _ (List.mem_append_right _ h)))))))))
theorem iw_X11_findNearest__X4 : ∀ w ∈ wsX40, w ∈ wsX11_findNearest := fun _ h => List.mem_cons_of_mem _ (List.mem_append_left _ (List.mem_append_left _ (List.mem_append_left _ (List.mem_append_left _ (List.mem_append_right _ h)))))
theorem iw_X11_findNearest__X6 : ∀ w ∈ wsX60, w ∈ wsX11_findNearest := fun _ h => List.mem_cons_of_mem _ (List.mem_append_left _ (List.mem_append_left _ (List.mem_append_left _ (List.mem_append_right _ h))))
theorem iw_X11_findNearest__X7 : ∀ w ∈ wsX70, w ∈ wsX11_findNearest := fun _ h => List.mem_cons_of_mem _ (List.mem_append_left _ (List.mem_append_left _ (List.mem_append_right _ h)))
theorem iw_X11_findNearest__X8 : ∀ w ∈ wsX80, w ∈ wsX11_findNearest := fun _ h => List.mem_cons_of_mem _ (List.mem_append_left _ (List.mem_append_left _ (List.mem_append_left _ (List.mem_append_left _ (List.mem_append_left _ (List.mem_append_left _ (List.mem_append_left _ (List.mem_append_right _ h))))))))
theorem iw_X11_forbids__X11 : ∀ w ∈ wsX110, w ∈ wsX11_forbids := fun _ h => List.mem_cons_of_mem _ (List.mem_append_left _ (List.mem_append_left _ (List.mem_append_right _ h)))
theorem iw_X11_forbids__X2 : ∀ w ∈ wsX20, w ∈ wsX11_forbids := fun _ h => List.mem_cons_of_mem _ (List.mem_append_left _ (List.mem_append_right _ h))
theorem iw_X11_forbids__X3 : ∀ w ∈ wsX30, w ∈ wsX11_forbids := fun _ h => List.mem_cons_of_mem _ (List.mem_append_right _ h)
theorem iw_X11_isBar__X11 : ∀ w ∈ wsX110, w ∈ wsX11_isBar := fun _ h => List.mem_cons_of_mem _ (List.mem_append_left _ (List.mem_append_right _ h))
theorem iw_X11_isBar__X3 : ∀ w ∈ wsX30, w ∈ wsX11_isBar := fun _ h => List.mem_cons_of_mem _ (List.mem_append_right _ h)
theorem iw_X11_isCode__X11 : ∀ w ∈ wsX110, w ∈ wsX11_isCode := fun _ h => List.mem_cons_of_mem _ (List.mem_append_left _ (List.mem_append_right _ h))
theorem iw_X11_isCode__X2 : ∀ w ∈ wsX20, w ∈ wsX11_isCode := fun _ h => List.mem_cons_of_mem _ (List.mem_append_right _ h)
theorem iw_X11_isGroup__X11 : ∀ w ∈ wsX110, w ∈ wsX11_isGroup := fun _ h => List.mem_cons_of_mem _ (List.mem_append_left _ (List.mem_append_right _ h))
theorem iw_X11_isGroup__X3 : ∀ w ∈ wsX30, w ∈ wsX11_isGroup := fun _ h => List.mem_cons_of_mem _ (List.mem_append_right _ h)
theorem iw_X11_isTeam__X11 : ∀ w ∈ wsX110, w ∈ wsX11_isTeam := fun _ h => List.mem_cons_of_mem _ (List.mem_append_left _ (List.mem_append_right _ h))
theorem iw_X11_isTeam__X3 : ∀ w ∈ wsX30, w ∈ wsX11_isTeam := fun _ h => List.mem_cons_of_mem _ (List.mem_append_right _ h)
theorem iw_X11_judge__X11 : ∀ w ∈ wsX110, w ∈ wsX11_judge := fun _ h => List.mem_cons_of_mem _ (List.mem_append_left _ (List.mem_append_right _ h))
theorem iw_X11_judge__X2 : ∀ w ∈ wsX20, w ∈ wsX11_judge := fun _ h => List.mem_cons_of_mem _ (List.mem_append_right _ h)
theorem iw_X11_lawful__X11 : ∀ w ∈ wsX110, w ∈ wsX11_lawful := fun _ h => List.mem_cons_of_mem _ (List.mem_append_left _ (List.mem_append_right _ h))
theorem iw_X11_lawful__X2 : ∀ w ∈ wsX20, w ∈ wsX11_lawful := fun _ h => List.mem_cons_of_mem _ (List.mem_append_right _ h)
theorem iw_X11_leads__X10 : ∀ w ∈ wsX100, w ∈ wsX11_leads := fun _ h => List.mem_cons_of_mem _ (List.mem_append_right _ h)
theorem iw_X11_leads__X11 : ∀ w ∈ wsX110, w ∈ wsX11_leads := fun _ h => List.mem_cons_of_mem _ (List.mem_append_left _ (List.mem_append_left _ (List.mem_append_left _ (List.mem_append_left _ (List.mem_append_left _ (List.mem_append_right _ h))))))
theorem iw_X11_leads__X2 : ∀ w ∈ wsX20, w ∈ wsX11_leads := fun _ h => List.mem_cons_of_mem _ (List.mem_append_left _ (List.mem_append_left _ (List.mem_append_left _ (List.mem_append_left _ (List.mem_append_right _ h)))))
theorem iw_X11_leads__X3 : ∀ w ∈ wsX30, w ∈ wsX11_leads := fun _ h => List.mem_cons_of_mem _ (List.mem_append_left _ (List.mem_append_left _ (List.mem_append_left _ (List.mem_append_right _ h))))
theorem iw_X11_leads__X4 : ∀ w ∈ wsX40, w ∈ wsX11_leads := fun _ h => List.mem_cons_of_mem _ (List.mem_append_left _ (List.mem_append_right _ h))
theorem iw_X11_leads__X8 : ∀ w ∈ wsX80, w ∈ wsX11_leads := fun _ h => List.mem_cons_of_mem _ (List.mem_append_left _ (List.mem_append_left _ (List.mem_append_right _ h)))
theorem iw_X11_leave__X0 : ∀ w ∈ wsX00, w ∈ wsX11_leave := fun _ h => List.mem_cons_of_mem _ (List.mem_append_left _ (List.mem_append_left _ (List.mem_append_right _ h)))
theorem iw_X11_leave__X11 : ∀ w ∈ wsX110, w ∈ wsX11_leave := fun _ h => List.mem_cons_of_mem _ (List.mem_append_left _ (List.mem_append_left _ (List.mem_append_left _ (List.mem_append_left _ (List.mem_append_right _ h)))))
theorem iw_X11_leave__X2 : ∀ w ∈ wsX20, w ∈ wsX11_leave := fun _ h => List.mem_cons_of_mem _ (List.mem_append_left _ (List.mem_append_right _ h))
theorem iw_X11_leave__X3 : ∀ w ∈ wsX30, w ∈ wsX11_leave := fun _ h => List.mem_cons_of_mem _ (List.mem_append_left _ (List.mem_append_left _ (List.mem_append_left _ (List.mem_append_right _ h))))
theorem iw_X11_leave__X4 : ∀ w ∈ wsX40, w ∈ wsX11_leave := fun _ h => List.mem_cons_of_mem _ (List.mem_append_right _ h)
theorem iw_X11_likeAnEarlierOne__X11 : ∀ w ∈ wsX110, w ∈ wsX11_likeAnEarlierOne := fun _ h => List.mem_cons_of_mem _ (List.mem_append_left _ (List.mem_append_right _ h))
theorem iw_X11_likeAnEarlierOne__X3 : ∀ w ∈ wsX30, w ∈ wsX11_likeAnEarlierOne := fun _ h => List.mem_cons_of_mem _ (List.mem_append_right _ h)
theorem iw_X11_mix__Jx00060 : ∀ w ∈ wsJx000600, w ∈ wsX11_mix := fun _ h => List.mem_cons_of_mem _ (List.mem_append_left _ (List.mem_append_left _ (List.mem_append_right _ h)))
theorem iw_X11_mix__X11 : ∀ w ∈ wsX110, w ∈ wsX11_mix := fun _ h => List.mem_cons_of_mem _ (List.mem_append_left _ (List.mem_append_left _ (List.mem_append_left _ (List.mem_append_left _ (List.mem_append_left _ (List.mem_append_right _ h))))))
theorem iw_X11_mix__X2 : ∀ w ∈ wsX20, w ∈ wsX11_mix := fun _ h => List.mem_cons_of_mem _ (List.mem_append_left _ (List.mem_append_left _ (List.mem_append_left _ (List.mem_append_left _ (List.mem_append_right _ h)))))
theorem iw_X11_mix__X3 : ∀ w ∈ wsX30, w ∈ wsX11_mix := fun _ h => List.mem_cons_of_mem _ (List.mem_append_left _ (List.mem_append_right _ h))
theorem iw_X11_mix__X4 : ∀ w ∈ wsX40, w ∈ wsX11_mix := fun _ h => List.mem_cons_of_mem _ (List.mem_append_right _ h)
theorem iw_X11_mix__X9 : ∀ w ∈ wsX90, w ∈ wsX11_mix := fun _ h => List.mem_cons_of_mem _ (List.mem_append_left _ (List.mem_append_left _ (List.mem_append_left _ (List.mem_append_right _ h))))
theorem iw_X11_mixed__Jx00060 : ∀ w ∈ wsJx000600, w ∈ wsX11_mixed := fun _ h => List.mem_cons_of_mem _ (List.mem_append_left _ (List.mem_append_left _ (List.mem_append_right _ h)))
theorem iw_X11_mixed__X11 : ∀ w ∈ wsX110, w ∈ wsX11_mixed := fun _ h => List.mem_cons_of_mem _ (List.mem_append_left _ (List.mem_append_left _ (List.mem_append_left _ (List.mem_append_left _ (List.mem_append_left _ (List.mem_append_right _ h))))))
theorem iw_X11_mixed__X2 : ∀ w ∈ wsX20, w ∈ wsX11_mixed := fun _ h => List.mem_cons_of_mem _ (List.mem_append_left _ (List.mem_append_left _ (List.mem_append_left _ (List.mem_append_left _ (List.mem_append_right _ h)))))
theorem iw_X11_mixed__X3 : ∀ w ∈ wsX30, w ∈ wsX11_mixed := fun _ h => List.mem_cons_of_mem _ (List.mem_append_left _ (List.mem_append_right _ h))
theorem iw_X11_mixed__X4 : ∀ w ∈ wsX40, w ∈ wsX11_mixed := fun _ h => List.mem_cons_of_mem _ (List.mem_append_right _ h)
theorem iw_X11_mixed__X9 : ∀ w ∈ wsX90, w ∈ wsX11_mixed := fun _ h => List.mem_cons_of_mem _ (List.mem_append_left _ (List.mem_append_left _ (List.mem_append_left _ (List.mem_append_right _ h))))
theorem iw_X11_moves__X0 : ∀ w ∈ wsX00, w ∈ wsX11_moves := fun _ h => List.mem_cons_of_mem _ (List.mem_append_left _ (List.mem_append_right _ h))
theorem iw_X11_moves__X11 : ∀ w ∈ wsX110, w ∈ wsX11_moves := fun _ h => List.mem_cons_of_mem _ (List.mem_append_left _ (List.mem_append_left _ (List.mem_append_left _ (List.mem_append_left _ (List.mem_append_right _ h)))))
theorem iw_X11_moves__X2 : ∀ w ∈ wsX20, w ∈ wsX11_moves := fun _ h => List.mem_cons_of_mem _ (List.mem_append_left _ (List.mem_append_left _ (List.mem_append_left _ (List.mem_append_right _ h))))
theorem iw_X11_moves__X3 : ∀ w ∈ wsX30, w ∈ wsX11_moves := fun _ h => List.mem_cons_of_mem _ (List.mem_append_left _ (List.mem_append_left _ (List.mem_append_right _ h)))
theorem iw_X11_moves__X4 : ∀ w ∈ wsX40, w ∈ wsX11_moves := fun _ h => List.mem_cons_of_mem _ (List.mem_append_right _ h)
theorem iw_X11_named__X11 : ∀ w ∈ wsX110, w ∈ wsX11_named := fun _ h => List.mem_cons_of_mem _ (List.mem_append_left _ (List.mem_append_right _ h))
theorem iw_X11_named__X3 : ∀ w ∈ wsX30, w ∈ wsX11_named := fun _ h => List.mem_cons_of_mem _ (List.mem_append_right _ h)
theorem iw_X11_nearest__Jx00060 : ∀ w ∈ wsJx000600, w ∈ wsX11_nearest := fun _ h => List.mem_cons_of_mem _ (List.mem_append_right _ h)
theorem iw_X11_nearest__X1 : ∀ w ∈ wsX10, w ∈ wsX11_nearest := fun _ h => List.mem_cons_of_mem _ (List.mem_append_left _ (List.mem_append_left _ (List.mem_append_left _ (List.mem_append_left _ (List.mem_append_left _ (List.mem_append_left _ (List.mem_append_right _ h)))))))
theorem iw_X11_nearest__X10 : ∀ w ∈ wsX100, w ∈ wsX11_nearest := fun _ h => List.mem_cons_of_mem _ (List.mem_append_left _ (List.mem_append_right _ h))
theorem iw_X11_nearest__X11 : ∀ w ∈ wsX110, w ∈ wsX11_nearest := fun _ h => List.mem_cons_of_mem _ (List.mem_append_left _ (List.mem_append_left _ (List.mem_append_left _ (List.mem_append_left _ (List.mem_append_left _ (List.mem_append_left _ (List.mem_append_left _ (List.mem_append_left _ (List.mem_append_left _ (List.mem_append_right _ h))))))))))
theorem iw_X11_nearest__X2 : ∀ w ∈ wsX20, w ∈ wsX11_nearest := fun _ h => List.mem_cons_of_mem _ (List.mem_append_left _ (List.mem_append_left _ (List.mem_append_left _ (List.mem_append_left _ (List.mem_append_left _ (List.mem_append_left _ (List.mem_append_left _ (List.mem_append_left _ (List.mem_append_right _ h)))))))))
theorem iw_X11_nearest__X3 : ∀ w ∈ wsX30, w ∈ wsX11_nearest := fun _ h => List.mem_cons_of_mem _ (List.mem_append_left _ (List.mem_append_left _ (List.mem_append_left _ (List.mem_append_left _ (List.mem_append_left _ (List.mem_append_left _ (List.mem_append_left _ (List.mem_append_right _ h))))))))
theorem iw_X11_nearest__X4 : ∀ w ∈ wsX40, w ∈ wsX11_nearest := fun _ h => List.mem_cons_of_mem _ (List.mem_append_left _ (List.mem_append_left _ (List.mem_append_left _ (List.mem_append_right _ h))))
theorem iw_X11_nearest__X6 : ∀ w ∈ wsX60, w ∈ wsX11_nearest := fun _ h => List.mem_cons_of_mem _ (List.mem_append_left _ (List.mem_append_left _ (List.mem_append_left _ (List.mem_append_left _ (List.mem_append_right _ h)))))
theorem iw_X11_nearest__X7 : ∀ w ∈ wsX70, w ∈ wsX11_nearest := fun _ h => List.mem_cons_of_mem _ (List.mem_append_left _ (List.mem_append_left _ (List.mem_append_right _ h)))
theorem iw_X11_nearest__X8 : ∀ w ∈ wsX80, w ∈ wsX11_nearest := fun _ h => List.mem_cons_of_mem _ (List.mem_append_left _ (List.mem_append_left _ (List.mem_append_left _ (List.mem_append_left _ (List.mem_append_left _ (List.mem_append_right _ h))))))
theorem iw_X11_order__X1 : ∀ w ∈ wsX10, w ∈ wsX11_order := fun _ h => List.mem_cons_of_mem _ (List.mem_append_right _ h)
theorem iw_X11_order__X10 : ∀ w ∈ wsX100, w ∈ wsX11_order := fun _ h => List.mem_cons_of_mem _ (List.mem_append_left _ (List.mem_append_right _ h))
theorem iw_X11_order__X11 : ∀ w ∈ wsX110, w ∈ wsX11_order := fun _ h => List.mem_cons_of_mem _ (List.mem_append_left _ (List.mem_append_left _ (List.mem_append_left _ (List.mem_append_left _ (List.mem_append_right _ h)))))
theorem iw_X11_order__X3 : ∀ w ∈ wsX30, w ∈ wsX11_order := fun _ h => List.mem_cons_of_mem _ (List.mem_append_left _ (List.mem_append_left _ (List.mem_append_left _ (List.mem_append_right _ h))))
theorem iw_X11_order__X8 : ∀ w ∈ wsX80, w ∈ wsX11_order := fun _ h => List.mem_cons_of_mem _ (List.mem_append_left _ (List.mem_append_left _ (List.mem_append_right _ h)))
theorem iw_X11_pair__Jx00060 : ∀ w ∈ wsJx000600, w ∈ wsX11_pair := fun _ h => List.mem_cons_of_mem _ (List.mem_append_right _ h)
theorem iw_X11_pair__X1 : ∀ w ∈ wsX10, w ∈ wsX11_pair := fun _ h => List.mem_cons_of_mem _ (List.mem_append_left _ (List.mem_append_left _ (List.mem_append_left _ (List.mem_append_left _ (List.mem_append_left _ (List.mem_append_right _ h))))))
theorem iw_X11_pair__X10 : ∀ w ∈ wsX100, w ∈ wsX11_pair := fun _ h => List.mem_cons_of_mem _ (List.mem_append_left _ (List.mem_append_right _ h))
theorem iw_X11_pair__X11 : ∀ w ∈ wsX110, w ∈ wsX11_pair := fun _ h => List.mem_cons_of_mem _ (List.mem_append_left _ (List.mem_append_left _ (List.mem_append_left _ (List.mem_append_left _ (List.mem_append_left _ (List.mem_append_left _ (List.mem_append_left _ (List.mem_append_left _ (List.mem_append_left _ (List.mem_append_right _ h))))))))))
theorem iw_X11_pair__X2 : ∀ w ∈ wsX20, w ∈ wsX11_pair := fun _ h => List.mem_cons_of_mem _ (List.mem_append_left _ (List.mem_append_left _ (List.mem_append_left _ (List.mem_append_left _ (List.mem_append_left _ (List.mem_append_left _ (List.mem_append_left _ (List.mem_append_left _ (List.mem_append_right _ h)))))))))
theorem iw_X11_pair__X3 : ∀ w ∈ wsX30, w ∈ wsX11_pair := fun _ h => List.mem_cons_of_mem _ (List.mem_append_left _ (List.mem_append_left _ (List.mem_append_left _ (List.mem_append_left _ (List.mem_append_left _ (List.mem_append_left _ (List.mem_append_left _ (List.mem_append_right _ h))))))))
theorem iw_X11_pair__X4 : ∀ w ∈ wsX40, w ∈ wsX11_pair := fun _ h => List.mem_cons_of_mem _ (List.mem_append_left _ (List.mem_append_left _ (List.mem_append_left _ (List.mem_append_right _ h))))
theorem iw_X11_pair__X6 : ∀ w ∈ wsX60, w ∈ wsX11_pair := fun _ h => List.mem_cons_of_mem _ (List.mem_append_left _ (List.mem_append_left _ (List.mem_append_left _ (List.mem_append_left _ (List.mem_append_right _ h)))))
theorem iw_X11_pair__X7 : ∀ w ∈ wsX70, w ∈ wsX11_pair := fun _ h => List.mem_cons_of_mem _ (List.mem_append_left _ (List.mem_append_left _ (List.mem_append_right _ h)))
theorem iw_X11_pair__X8 : ∀ w ∈ wsX80, w ∈ wsX11_pair := fun _ h => List.mem_cons_of_mem _ (List.mem_append_left _ (List.mem_append_left _ (List.mem_append_left _ (List.mem_append_left _ (List.mem_append_left _ (List.mem_append_left _ (List.mem_append_right _ h)))))))
theorem iw_X11_parts__Jx00060 : ∀ w ∈ wsJx000600, w ∈ wsX11_parts := fun _ h => List.mem_cons_of_mem _ (List.mem_append_left _ (List.mem_append_left _ (List.mem_append_right _ h)))
theorem iw_X11_parts__X11 : ∀ w ∈ wsX110, w ∈ wsX11_parts := fun _ h => List.mem_cons_of_mem _ (List.mem_append_left _ (List.mem_append_left _ (List.mem_append_left _ (List.mem_append_left _ (List.mem_append_left _ (List.mem_append_right _ h))))))
theorem iw_X11_parts__X2 : ∀ w ∈ wsX20, w ∈ wsX11_parts := fun _ h => List.mem_cons_of_mem _ (List.mem_append_left _ (List.mem_append_left _ (List.mem_append_left _ (List.mem_append_right _ h))))
theorem iw_X11_parts__X3 : ∀ w ∈ wsX30, w ∈ wsX11_parts := fun _ h => List.mem_cons_of_mem _ (List.mem_append_left _ (List.mem_append_right _ h))
theorem iw_X11_parts__X4 : ∀ w ∈ wsX40, w ∈ wsX11_parts := fun _ h => List.mem_cons_of_mem _ (List.mem_append_right _ h)
theorem iw_X11_parts__X9 : ∀ w ∈ wsX90, w ∈ wsX11_parts := fun _ h => List.mem_cons_of_mem _ (List.mem_append_left _ (List.mem_append_left _ (List.mem_append_left _ (List.mem_append_left _ (List.mem_append_right _ h)))))
theorem iw_X11_place__Jx00060 : ∀ w ∈ wsJx000600, w ∈ wsX11_place := fun _ h => List.mem_cons_of_mem _ (List.mem_append_right _ h)
theorem iw_X11_place__X1 : ∀ w ∈ wsX10, w ∈ wsX11_place := fun _ h => List.mem_cons_of_mem _ (List.mem_append_left _ (List.mem_append_left _ (List.mem_append_left _ (List.mem_append_left _ (List.mem_append_left _ (List.mem_append_right _ h))))))
theorem iw_X11_place__X10 : ∀ w ∈ wsX100, w ∈ wsX11_place := fun _ h => List.mem_cons_of_mem _ (List.mem_append_left _ (List.mem_append_right _ h))
theorem iw_X11_place__X11 : ∀ w ∈ wsX110, w ∈ wsX11_place := fun _ h => List.mem_cons_of_mem _ (List.mem_append_left _ (List.mem_append_left _ (List.mem_append_left _ (List.mem_append_left _ (List.mem_append_left _ (List.mem_append_left _ (List.mem_append_left _ (List.mem_append_left _ (List.mem_append_left _ (List.mem_append_right _ h))))))))))
theorem iw_X11_place__X2 : ∀ w ∈ wsX20, w ∈ wsX11_place := fun _ h => List.mem_cons_of_mem _ (List.mem_append_left _ (List.mem_append_left _ (List.mem_append_left _ (List.mem_append_left _ (List.mem_append_left _ (List.mem_append_left _ (List.mem_append_left _ (List.mem_append_left _ (List.mem_append_right _ h)))))))))
theorem iw_X11_place__X3 : ∀ w ∈ wsX30, w ∈ wsX11_place := fun _ h => List.mem_cons_of_mem _ (List.mem_append_left _ (List.mem_append_left _ (List.mem_append_left _ (List.mem_append_left _ (List.mem_append_left _ (List.mem_append_left _ (List.mem_append_left _ (List.mem_append_right _ h))))))))
theorem iw_X11_place__X4 : ∀ w ∈ wsX40, w ∈ wsX11_place := fun _ h => List.mem_cons_of_mem _ (List.mem_append_left _ (List.mem_append_left _ (List.mem_append_left _ (List.mem_append_right _ h))))
theorem iw_X11_place__X6 : ∀ w ∈ wsX60, w ∈ wsX11_place := fun _ h => List.mem_cons_of_mem _ (List.mem_append_left _ (List.mem_append_left _ (List.mem_append_left _ (List.mem_append_left _ (List.mem_append_right _ h)))))
theorem iw_X11_place__X7 : ∀ w ∈ wsX70, w ∈ wsX11_place := fun _ h => List.mem_cons_of_mem _ (List.mem_append_left _ (List.mem_append_left _ (List.mem_append_right _ h)))
theorem iw_X11_place__X8 : ∀ w ∈ wsX80, w ∈ wsX11_place := fun _ h => List.mem_cons_of_mem _ (List.mem_append_left _ (List.mem_append_left _ (List.mem_append_left _ (List.mem_append_left _ (List.mem_append_left _ (List.mem_append_left _ (List.mem_append_right _ h)))))))
theorem iw_X11_placed__X11 : ∀ w ∈ wsX110, w ∈ wsX11_placed := fun _ h => List.mem_cons_of_mem _ (List.mem_append_left _ (List.mem_append_left _ (List.mem_append_right _ h)))
theorem iw_X11_placed__X3 : ∀ w ∈ wsX30, w ∈ wsX11_placed := fun _ h => List.mem_cons_of_mem _ (List.mem_append_right _ h)
theorem iw_X11_placed__X8 : ∀ w ∈ wsX80, w ∈ wsX11_placed := fun _ h => List.mem_cons_of_mem _ (List.mem_append_left _ (List.mem_append_right _ h))
theorem iw_X11_run__X10 : ∀ w ∈ wsX100, w ∈ wsX11_run := fun _ h => List.mem_cons_of_mem _ (List.mem_append_left _ (List.mem_append_left _ (List.mem_append_right _ h)))
theorem iw_X11_run__X11 : ∀ w ∈ wsX110, w ∈ wsX11_run := fun _ h => List.mem_cons_of_mem _ (List.mem_append_left _ (List.mem_append_left _ (List.mem_append_left _ (List.mem_append_left _ (List.mem_append_right _ h)))))
theorem iw_X11_run__X2 : ∀ w ∈ wsX20, w ∈ wsX11_run := fun _ h => List.mem_cons_of_mem _ (List.mem_append_left _ (List.mem_append_left _ (List.mem_append_left _ (List.mem_append_right _ h))))
theorem iw_X11_run__X3 : ∀ w ∈ wsX30, w ∈ wsX11_run := fun _ h => List.mem_cons_of_mem _ (List.mem_append_left _ (List.mem_append_right _ h))
theorem iw_X11_run__X4 : ∀ w ∈ wsX40, w ∈ wsX11_run := fun _ h => List.mem_cons_of_mem _ (List.mem_append_right _ h)
theorem iw_X11_sizeOfFarthest__X1 : ∀ w ∈ wsX10, w ∈ wsX11_sizeOfFarthest := fun _ h => List.mem_cons_of_mem _ (List.mem_append_right _ h)
theorem iw_X11_sizeOfFarthest__X11 : ∀ w ∈ wsX110, w ∈ wsX11_sizeOfFarthest := fun _ h => List.mem_cons_of_mem _ (List.mem_append_left _ (List.mem_append_left _ (List.mem_append_right _ h)))
theorem iw_X11_sizeOfFarthest__X3 : ∀ w ∈ wsX30, w ∈ wsX11_sizeOfFarthest := fun _ h => List.mem_cons_of_mem _ (List.mem_append_left _ (List.mem_append_right _ h))
theorem iw_X11_stageChanged__X1 : ∀ w ∈ wsX10, w ∈ wsX11_stageChanged := fun _ h => List.mem_cons_of_mem _ (List.mem_append_right _ h)
theorem iw_X11_stageChanged__X11 : ∀ w ∈ wsX110, w ∈ wsX11_stageChanged := fun _ h => List.mem_cons_of_mem _ (List.mem_append_left _ (List.mem_append_right _ h))
theorem iw_X11_startChanged__X1 : ∀ w ∈ wsX10, w ∈ wsX11_startChanged := fun _ h => List.mem_cons_of_mem _ (List.mem_append_right _ h)
theorem iw_X11_startChanged__X11 : ∀ w ∈ wsX110, w ∈ wsX11_startChanged := fun _ h => List.mem_cons_of_mem _ (List.mem_append_left _ (List.mem_append_right _ h))
theorem iw_X11_sumOfFar__X1 : ∀ w ∈ wsX10, w ∈ wsX11_sumOfFar := fun _ h => List.mem_cons_of_mem _ (List.mem_append_right _ h)
theorem iw_X11_sumOfFar__X11 : ∀ w ∈ wsX110, w ∈ wsX11_sumOfFar := fun _ h => List.mem_cons_of_mem _ (List.mem_append_left _ (List.mem_append_left _ (List.mem_append_right _ h)))
theorem iw_X11_sumOfFar__X3 : ∀ w ∈ wsX30, w ∈ wsX11_sumOfFar := fun _ h => List.mem_cons_of_mem _ (List.mem_append_left _ (List.mem_append_right _ h))
theorem iw_X11_tapeFour__X11 : ∀ w ∈ wsX110, w ∈ wsX11_tapeFour := fun _ h => List.mem_cons_of_mem _ (List.mem_append_right _ h)
theorem iw_X11_text__Jx00060 : ∀ w ∈ wsJx000600, w ∈ wsX11_text := fun _ h => List.mem_cons_of_mem _ (List.mem_append_left _ (List.mem_append_left _ (List.mem_append_right _ h)))
theorem iw_X11_text__X0 : ∀ w ∈ wsX00, w ∈ wsX11_text := fun _ h => List.mem_cons_of_mem _ (List.mem_append_left _ (List.mem_append_left _ (List.mem_append_left _ (List.mem_append_left _ (List.mem_append_left _ (List.mem_append_right _ h))))))
theorem iw_X11_text__X1 : ∀ w ∈ wsX10, w ∈ wsX11_text := fun _ h => List.mem_cons_of_mem _ (List.mem_append_left _ (List.mem_append_left _ (List.mem_append_left _ (List.mem_append_left _ (List.mem_append_left _ (List.mem_append_left _ (List.mem_append_right _ h)))))))
theorem iw_X11_text__X10 : ∀ w ∈ wsX100, w ∈ wsX11_text := fun _ h => List.mem_cons_of_mem _ (List.mem_append_left _ (List.mem_append_left _ (List.mem_append_left _ (List.mem_append_left _ (List.mem_append_left _ (List.mem_append_left _ (List.mem_append_left _ (List.mem_append_right _ h))))))))
theorem iw_X11_text__X11 : ∀ w ∈ wsX110, w ∈ wsX11_text := fun _ h => List.mem_cons_of_mem _ (List.mem_append_left _ (List.mem_append_left _ (List.mem_append_left _ (List.mem_append_left _ (List.mem_append_left _ (List.mem_append_left _ (List.mem_append_left _ (List.mem_append_left _ (List.mem_append_left _ (List.mem_append_left _ (List.mem_append_right _ h)))))))))))
theorem iw_X11_text__X2 : ∀ w ∈ wsX20, w ∈ wsX11_text := fun _ h => List.mem_cons_of_mem _ (List.mem_append_left _ (List.mem_append_left _ (List.mem_append_left _ (List.mem_append_right _ h))))
theorem iw_X11_text__X3 : ∀ w ∈ wsX30, w ∈ wsX11_text := fun _ h => List.mem_cons_of_mem _ (List.mem_append_left _ (List.mem_append_left _ (List.mem_append_left _ (List.mem_append_left _ (List.mem_append_left _ (List.mem_append_left _ (List.mem_append_left _ (List.mem_append_left _ (List.mem_append_right _ h)))))))))
theorem iw_X11_text__X4 : ∀ w ∈ wsX40, w ∈ wsX11_text := fun _ h => List.mem_cons_of_mem _ (List.mem_append_left _ (List.mem_append_left _ (List.mem_append_left _ (List.mem_append_left _ (List.mem_append_right _ h)))))
theorem iw_X11_text__X5 : ∀ w ∈ wsX50, w ∈ wsX11_text := fun _ h => List.mem_cons_of_mem _ (List.mem_append_left _ (List.mem_append_left _ (List.mem_append_left _ (List.mem_append_left _ (List.mem_append_left _ (List.mem_append_left _ (List.mem_append_left _ (List.mem_append_left _ (List.mem_append_left _ (List.mem_append_right _ h))))))))))
theorem iw_X11_text__X8 : ∀ w ∈ wsX80, w ∈ wsX11_text := fun _ h => List.mem_cons_of_mem _ (List.mem_append_left _ (List.mem_append_right _ h))
theorem iw_X11_text__X9 : ∀ w ∈ wsX90, w ∈ wsX11_text := fun _ h => List.mem_cons_of_mem _ (List.mem_append_right _ h)
theorem iw_X11_treeOfNow__X10 : ∀ w ∈ wsX100, w ∈ wsX11_treeOfNow := fun _ h => List.mem_cons_of_mem _ (List.mem_append_left _ (List.mem_append_left _ (List.mem_append_left _ (List.mem_append_left _ (List.mem_append_right _ h)))))
theorem iw_X11_treeOfNow__X11 : ∀ w ∈ wsX110, w ∈ wsX11_treeOfNow := fun _ h => List.mem_cons_of_mem _ (List.mem_append_left _ (List.mem_append_left _ (List.mem_append_left _ (List.mem_append_left _ (List.mem_append_left _ (List.mem_append_right _ h))))))
theorem iw_X11_treeOfNow__X2 : ∀ w ∈ wsX20, w ∈ wsX11_treeOfNow := fun _ h => List.mem_cons_of_mem _ (List.mem_append_left _ (List.mem_append_left _ (List.mem_append_right _ h)))
theorem iw_X11_treeOfNow__X3 : ∀ w ∈ wsX30, w ∈ wsX11_treeOfNow := fun _ h => List.mem_cons_of_mem _ (List.mem_append_left _ (List.mem_append_right _ h))
theorem iw_X11_treeOfNow__X4 : ∀ w ∈ wsX40, w ∈ wsX11_treeOfNow := fun _ h => List.mem_cons_of_mem _ (List.mem_append_right _ h)
theorem iw_X11_treeOfNow__X8 : ∀ w ∈ wsX80, w ∈ wsX11_treeOfNow := fun _ h => List.mem_cons_of_mem _ (List.mem_append_left _ (List.mem_append_left _ (List.mem_append_left _ (List.mem_append_right _ h))))
theorem iw_X11_undo__X1 : ∀ w ∈ wsX10, w ∈ wsX11_undo := fun _ h => List.mem_cons_of_mem _ (List.mem_append_right _ h)
theorem iw_X11_undo__X11 : ∀ w ∈ wsX110, w ∈ wsX11_undo := fun _ h => List.mem_cons_of_mem _ (List.mem_append_left _ (List.mem_append_left _ (List.mem_append_right _ h)))
theorem iw_X11_undo__X8 : ∀ w ∈ wsX80, w ∈ wsX11_undo := fun _ h => List.mem_cons_of_mem _ (List.mem_append_left _ (List.mem_append_right _ h))
theorem iw_X11_why__X11 : ∀ w ∈ wsX110, w ∈ wsX11_why := fun _ h => List.mem_cons_of_mem _ (List.mem_append_left _ (List.mem_append_left _ (List.mem_append_right _ h)))
theorem iw_X11_why__X3 : ∀ w ∈ wsX30, w ∈ wsX11_why := fun _ h => List.mem_cons_of_mem _ (List.mem_append_left _ (List.mem_append_right _ h))
theorem iw_X11_why__X8 : ∀ w ∈ wsX80, w ∈ wsX11_why := fun _ h => List.mem_cons_of_mem _ (List.mem_append_right _ h)
theorem iw_X11_without__X11 : ∀ w ∈ wsX110, w ∈ wsX11_without := fun _ h => List.mem_cons_of_mem _ (List.mem_append_left _ (List.mem_append_left _ (List.mem_append_right _ h)))
theorem iw_X11_without__X2 : ∀ w ∈ wsX20, w ∈ wsX11_without := fun _ h => List.mem_cons_of_mem _ (List.mem_append_left _ (List.mem_append_right _ h))
theorem iw_X11_without__X3 : ∀ w ∈ wsX30, w ∈ wsX11_without := fun _ h => List.mem_cons_of_mem _ (List.mem_append_right _ h)
theorem iw_X1_forget__X1 : ∀ w ∈ wsX10, w ∈ wsX1_forget := fun _ h => List.mem_cons_of_mem _ (List.mem_append_right _ h)
theorem iw_X1_ofPair__X1 : ∀ w ∈ wsX10, w ∈ wsX1_ofPair := fun _ h => List.mem_cons_of_mem _ (List.mem_append_right _ h)
theorem iw_X1_ofPlace__X1 : ∀ w ∈ wsX10, w ∈ wsX1_ofPlace := fun _ h => List.mem_cons_of_mem _ (List.mem_append_right _ h)
theorem iw_X2_breakBar__X2 : ∀ w ∈ wsX20, w ∈ wsX2_breakBar := fun _ h => List.mem_cons_of_mem _ (List.mem_append_left _ (List.mem_append_left _ (List.mem_append_right _ h)))
theorem iw_X2_breakBar__X3 : ∀ w ∈ wsX30, w ∈ wsX2_breakBar := fun _ h => List.mem_cons_of_mem _ (List.mem_append_left _ (List.mem_append_right _ h))
theorem iw_X2_breakBar__X4 : ∀ w ∈ wsX40, w ∈ wsX2_breakBar := fun _ h => List.mem_cons_of_mem _ (List.mem_append_right _ h)
theorem iw_X2_fewestAgainst__X2 : ∀ w ∈ wsX20, w ∈ wsX2_fewestAgainst := fun _ h => List.mem_cons_of_mem _ (List.mem_append_left _ (List.mem_append_left _ (List.mem_append_right _ h)))
theorem iw_X2_fewestAgainst__X3 : ∀ w ∈ wsX30, w ∈ wsX2_fewestAgainst := fun _ h => List.mem_cons_of_mem _ (List.mem_append_left _ (List.mem_append_right _ h))
theorem iw_X2_fewestAgainst__X4 : ∀ w ∈ wsX40, w ∈ wsX2_fewestAgainst := fun _ h => List.mem_cons_of_mem _ (List.mem_append_right _ h)
theorem iw_X2_firstLawful__X2 : ∀ w ∈ wsX20, w ∈ wsX2_firstLawful := fun _ h => List.mem_cons_of_mem _ (List.mem_append_left _ (List.mem_append_left _ (List.mem_append_right _ h)))
theorem iw_X2_firstLawful__X3 : ∀ w ∈ wsX30, w ∈ wsX2_firstLawful := fun _ h => List.mem_cons_of_mem _ (List.mem_append_left _ (List.mem_append_right _ h))
theorem iw_X2_firstLawful__X4 : ∀ w ∈ wsX40, w ∈ wsX2_firstLawful := fun _ h => List.mem_cons_of_mem _ (List.mem_append_right _ h)
theorem iw_X2_fits__X2 : ∀ w ∈ wsX20, w ∈ wsX2_fits := fun _ h => List.mem_cons_of_mem _ (List.mem_append_left _ (List.mem_append_left _ (List.mem_append_right _ h)))
theorem iw_X2_fits__X3 : ∀ w ∈ wsX30, w ∈ wsX2_fits := fun _ h => List.mem_cons_of_mem _ (List.mem_append_left _ (List.mem_append_right _ h))
theorem iw_X2_fits__X4 : ∀ w ∈ wsX40, w ∈ wsX2_fits := fun _ h => List.mem_cons_of_mem _ (List.mem_append_right _ h)
theorem iw_X2_groupIn__X2 : ∀ w ∈ wsX20, w ∈ wsX2_groupIn := fun _ h => List.mem_cons_of_mem _ (List.mem_append_left _ (List.mem_append_left _ (List.mem_append_right _ h)))
theorem iw_X2_groupIn__X3 : ∀ w ∈ wsX30, w ∈ wsX2_groupIn := fun _ h => List.mem_cons_of_mem _ (List.mem_append_left _ (List.mem_append_right _ h))
theorem iw_X2_groupIn__X4 : ∀ w ∈ wsX40, w ∈ wsX2_groupIn := fun _ h => List.mem_cons_of_mem _ (List.mem_append_right _ h)
theorem iw_X2_listLawful__X2 : ∀ w ∈ wsX20, w ∈ wsX2_listLawful := fun _ h => List.mem_cons_of_mem _ (List.mem_append_right _ h)
theorem iw_X2_rankIn__X2 : ∀ w ∈ wsX20, w ∈ wsX2_rankIn := fun _ h => List.mem_cons_of_mem _ (List.mem_append_left _ (List.mem_append_right _ h))
theorem iw_X2_rankIn__X4 : ∀ w ∈ wsX40, w ∈ wsX2_rankIn := fun _ h => List.mem_cons_of_mem _ (List.mem_append_right _ h)
theorem iw_X2_renew__Jx00060 : ∀ w ∈ wsJx000600, w ∈ wsX2_renew := fun _ h => List.mem_cons_of_mem _ (List.mem_append_right _ h)
theorem iw_X2_renew__X2 : ∀ w ∈ wsX20, w ∈ wsX2_renew := fun _ h => List.mem_cons_of_mem _ (List.mem_append_left _ (List.mem_append_left _ (List.mem_append_left _ (List.mem_append_right _ h))))
theorem iw_X2_renew__X3 : ∀ w ∈ wsX30, w ∈ wsX2_renew := fun _ h => List.mem_cons_of_mem _ (List.mem_append_left _ (List.mem_append_left _ (List.mem_append_right _ h)))
theorem iw_X2_renew__X4 : ∀ w ∈ wsX40, w ∈ wsX2_renew := fun _ h => List.mem_cons_of_mem _ (List.mem_append_left _ (List.mem_append_right _ h))
theorem iw_X2_tellHeld__X2 : ∀ w ∈ wsX20, w ∈ wsX2_tellHeld := fun _ h => List.mem_cons_of_mem _ (List.mem_append_left _ (List.mem_append_left _ (List.mem_append_right _ h)))
theorem iw_X2_tellHeld__X3 : ∀ w ∈ wsX30, w ∈ wsX2_tellHeld := fun _ h => List.mem_cons_of_mem _ (List.mem_append_left _ (List.mem_append_right _ h))
theorem iw_X2_tellHeld__X4 : ∀ w ∈ wsX40, w ∈ wsX2_tellHeld := fun _ h => List.mem_cons_of_mem _ (List.mem_append_right _ h)
theorem iw_X2_tellWithin__X2 : ∀ w ∈ wsX20, w ∈ wsX2_tellWithin := fun _ h => List.mem_cons_of_mem _ (List.mem_append_left _ (List.mem_append_right _ h))
theorem iw_X2_tellWithin__X3 : ∀ w ∈ wsX30, w ∈ wsX2_tellWithin := fun _ h => List.mem_cons_of_mem _ (List.mem_append_right _ h)
theorem iw_X3_addAtMost__X3 : ∀ w ∈ wsX30, w ∈ wsX3_addAtMost := fun _ h => List.mem_cons_of_mem _ (List.mem_append_right _ h)
theorem iw_X3_addBar__X3 : ∀ w ∈ wsX30, w ∈ wsX3_addBar := fun _ h => List.mem_cons_of_mem _ (List.mem_append_right _ h)
theorem iw_X3_addFixed__X3 : ∀ w ∈ wsX30, w ∈ wsX3_addFixed := fun _ h => List.mem_cons_of_mem _ (List.mem_append_right _ h)
theorem iw_X3_addMark__X3 : ∀ w ∈ wsX30, w ∈ wsX3_addMark := fun _ h => List.mem_cons_of_mem _ (List.mem_append_right _ h)
theorem iw_X3_addNever__X3 : ∀ w ∈ wsX30, w ∈ wsX3_addNever := fun _ h => List.mem_cons_of_mem _ (List.mem_append_right _ h)
theorem iw_X3_addTeam__X3 : ∀ w ∈ wsX30, w ∈ wsX3_addTeam := fun _ h => List.mem_cons_of_mem _ (List.mem_append_right _ h)
theorem iw_X3_forget__X3 : ∀ w ∈ wsX30, w ∈ wsX3_forget := fun _ h => List.mem_cons_of_mem _ (List.mem_append_right _ h)
theorem iw_X3_isGroupNamed__X3 : ∀ w ∈ wsX30, w ∈ wsX3_isGroupNamed := fun _ h => List.mem_cons_of_mem _ (List.mem_append_right _ h)
theorem iw_X3_markNamed__X3 : ∀ w ∈ wsX30, w ∈ wsX3_markNamed := fun _ h => List.mem_cons_of_mem _ (List.mem_append_right _ h)
theorem iw_X3_nextPotAfter__X3 : ∀ w ∈ wsX30, w ∈ wsX3_nextPotAfter := fun _ h => List.mem_cons_of_mem _ (List.mem_append_right _ h)
theorem iw_X3_placeOf__X3 : ∀ w ∈ wsX30, w ∈ wsX3_placeOf := fun _ h => List.mem_cons_of_mem _ (List.mem_append_right _ h)
theorem iw_X3_potOf__X3 : ∀ w ∈ wsX30, w ∈ wsX3_potOf := fun _ h => List.mem_cons_of_mem _ (List.mem_append_right _ h)
theorem iw_X3_take__X3 : ∀ w ∈ wsX30, w ∈ wsX3_take := fun _ h => List.mem_cons_of_mem _ (List.mem_append_right _ h)
theorem iw_X3_teamNamed__X3 : ∀ w ∈ wsX30, w ∈ wsX3_teamNamed := fun _ h => List.mem_cons_of_mem _ (List.mem_append_right _ h)
theorem iw_X3_teamsMarked__X3 : ∀ w ∈ wsX30, w ∈ wsX3_teamsMarked := fun _ h => List.mem_cons_of_mem _ (List.mem_append_right _ h)
theorem iw_X4_addRow__X4 : ∀ w ∈ wsX40, w ∈ wsX4_addRow := fun _ h => List.mem_cons_of_mem _ (List.mem_append_right _ h)
theorem iw_X4_firstOpen__X4 : ∀ w ∈ wsX40, w ∈ wsX4_firstOpen := fun _ h => List.mem_cons_of_mem _ (List.mem_append_right _ h)
theorem iw_X4_groupAt__X4 : ∀ w ∈ wsX40, w ∈ wsX4_groupAt := fun _ h => List.mem_cons_of_mem _ (List.mem_append_right _ h)
theorem iw_X4_groupWith__X4 : ∀ w ∈ wsX40, w ∈ wsX4_groupWith := fun _ h => List.mem_cons_of_mem _ (List.mem_append_right _ h)
theorem iw_X4_rankWithSwapped__X4 : ∀ w ∈ wsX40, w ∈ wsX4_rankWithSwapped := fun _ h => List.mem_cons_of_mem _ (List.mem_append_right _ h)
theorem iw_X4_setSwaps__X4 : ∀ w ∈ wsX40, w ∈ wsX4_setSwaps := fun _ h => List.mem_cons_of_mem _ (List.mem_append_right _ h)
theorem iw_X4_set__X4 : ∀ w ∈ wsX40, w ∈ wsX4_set := fun _ h => List.mem_cons_of_mem _ (List.mem_append_right _ h)
theorem iw_X5_fail__X5 : ∀ w ∈ wsX50, w ∈ wsX5_fail := fun _ h => List.mem_cons_of_mem _ (List.mem_append_right _ h)
theorem iw_X5_isName__X5 : ∀ w ∈ wsX50, w ∈ wsX5_isName := fun _ h => List.mem_cons_of_mem _ (List.mem_append_right _ h)
theorem iw_X5_isNumber__X5 : ∀ w ∈ wsX50, w ∈ wsX5_isNumber := fun _ h => List.mem_cons_of_mem _ (List.mem_append_right _ h)
theorem iw_X5_isRoomForBar__X3 : ∀ w ∈ wsX30, w ∈ wsX5_isRoomForBar := fun _ h => List.mem_cons_of_mem _ (List.mem_append_right _ h)
theorem iw_X5_isRoomForBar__X5 : ∀ w ∈ wsX50, w ∈ wsX5_isRoomForBar := fun _ h => List.mem_cons_of_mem _ (List.mem_append_left _ (List.mem_append_right _ h))
theorem iw_X5_readApart__X3 : ∀ w ∈ wsX30, w ∈ wsX5_readApart := fun _ h => List.mem_cons_of_mem _ (List.mem_append_right _ h)
theorem iw_X5_readApart__X5 : ∀ w ∈ wsX50, w ∈ wsX5_readApart := fun _ h => List.mem_cons_of_mem _ (List.mem_append_left _ (List.mem_append_right _ h))
theorem iw_X5_readAtMost__X3 : ∀ w ∈ wsX30, w ∈ wsX5_readAtMost := fun _ h => List.mem_cons_of_mem _ (List.mem_append_right _ h)
theorem iw_X5_readAtMost__X5 : ∀ w ∈ wsX50, w ∈ wsX5_readAtMost := fun _ h => List.mem_cons_of_mem _ (List.mem_append_left _ (List.mem_append_right _ h))
theorem iw_X5_readGroups__X3 : ∀ w ∈ wsX30, w ∈ wsX5_readGroups := fun _ h => List.mem_cons_of_mem _ (List.mem_append_right _ h)
theorem iw_X5_readGroups__X5 : ∀ w ∈ wsX50, w ∈ wsX5_readGroups := fun _ h => List.mem_cons_of_mem _ (List.mem_append_left _ (List.mem_append_right _ h))
theorem iw_X5_readHeld__X3 : ∀ w ∈ wsX30, w ∈ wsX5_readHeld := fun _ h => List.mem_cons_of_mem _ (List.mem_append_right _ h)
theorem iw_X5_readHeld__X5 : ∀ w ∈ wsX50, w ∈ wsX5_readHeld := fun _ h => List.mem_cons_of_mem _ (List.mem_append_left _ (List.mem_append_right _ h))
theorem iw_X5_readLine__X3 : ∀ w ∈ wsX30, w ∈ wsX5_readLine := fun _ h => List.mem_cons_of_mem _ (List.mem_append_right _ h)
theorem iw_X5_readLine__X5 : ∀ w ∈ wsX50, w ∈ wsX5_readLine := fun _ h => List.mem_cons_of_mem _ (List.mem_append_left _ (List.mem_append_right _ h))
theorem iw_X5_readLines__X3 : ∀ w ∈ wsX30, w ∈ wsX5_readLines := fun _ h => List.mem_cons_of_mem _ (List.mem_append_right _ h)
theorem iw_X5_readLines__X5 : ∀ w ∈ wsX50, w ∈ wsX5_readLines := fun _ h => List.mem_cons_of_mem _ (List.mem_append_left _ (List.mem_append_right _ h))
theorem iw_X5_readMark__X3 : ∀ w ∈ wsX30, w ∈ wsX5_readMark := fun _ h => List.mem_cons_of_mem _ (List.mem_append_right _ h)
theorem iw_X5_readMark__X5 : ∀ w ∈ wsX50, w ∈ wsX5_readMark := fun _ h => List.mem_cons_of_mem _ (List.mem_append_left _ (List.mem_append_right _ h))
theorem iw_X5_readPot__X3 : ∀ w ∈ wsX30, w ∈ wsX5_readPot := fun _ h => List.mem_cons_of_mem _ (List.mem_append_right _ h)
theorem iw_X5_readPot__X5 : ∀ w ∈ wsX50, w ∈ wsX5_readPot := fun _ h => List.mem_cons_of_mem _ (List.mem_append_left _ (List.mem_append_right _ h))
theorem iw_X5_readStop__X5 : ∀ w ∈ wsX50, w ∈ wsX5_readStop := fun _ h => List.mem_cons_of_mem _ (List.mem_append_right _ h)
theorem iw_X5_readTeam__X3 : ∀ w ∈ wsX30, w ∈ wsX5_readTeam := fun _ h => List.mem_cons_of_mem _ (List.mem_append_right _ h)
theorem iw_X5_readTeam__X5 : ∀ w ∈ wsX50, w ∈ wsX5_readTeam := fun _ h => List.mem_cons_of_mem _ (List.mem_append_left _ (List.mem_append_right _ h))
theorem iw_X5_readUpToStop__X3 : ∀ w ∈ wsX30, w ∈ wsX5_readUpToStop := fun _ h => List.mem_cons_of_mem _ (List.mem_append_right _ h)
theorem iw_X5_readUpToStop__X5 : ∀ w ∈ wsX50, w ∈ wsX5_readUpToStop := fun _ h => List.mem_cons_of_mem _ (List.mem_append_left _ (List.mem_append_right _ h))
theorem iw_X5_stepNumber__X5 : ∀ w ∈ wsX50, w ∈ wsX5_stepNumber := fun _ h => List.mem_cons_of_mem _ (List.mem_append_right _ h)
theorem iw_X5_stepWord__X5 : ∀ w ∈ wsX50, w ∈ wsX5_stepWord := fun _ h => List.mem_cons_of_mem _ (List.mem_append_right _ h)
theorem iw_X5_step__X5 : ∀ w ∈ wsX50, w ∈ wsX5_step := fun _ h => List.mem_cons_of_mem _ (List.mem_append_right _ h)
theorem iw_X6_addAhead__X1 : ∀ w ∈ wsX10, w ∈ wsX6_addAhead := fun _ h => List.mem_cons_of_mem _ (List.mem_append_left _ (List.mem_append_left _ (List.mem_append_left _ (List.mem_append_left _ (List.mem_append_right _ h)))))
theorem iw_X6_addAhead__X10 : ∀ w ∈ wsX100, w ∈ wsX6_addAhead := fun _ h => List.mem_cons_of_mem _ (List.mem_append_left _ (List.mem_append_left _ (List.mem_append_left _ (List.mem_append_right _ h))))
theorem iw_X6_addAhead__X3 : ∀ w ∈ wsX30, w ∈ wsX6_addAhead := fun _ h => List.mem_cons_of_mem _ (List.mem_append_left _ (List.mem_append_right _ h))
theorem iw_X6_addAhead__X4 : ∀ w ∈ wsX40, w ∈ wsX6_addAhead := fun _ h => List.mem_cons_of_mem _ (List.mem_append_right _ h)
theorem iw_X6_addAhead__X6 : ∀ w ∈ wsX60, w ∈ wsX6_addAhead := fun _ h => List.mem_cons_of_mem _ (List.mem_append_left _ (List.mem_append_left _ (List.mem_append_right _ h)))
theorem iw_X6_addLast__X1 : ∀ w ∈ wsX10, w ∈ wsX6_addLast := fun _ h => List.mem_cons_of_mem _ (List.mem_append_left _ (List.mem_append_right _ h))
theorem iw_X6_addLast__X10 : ∀ w ∈ wsX100, w ∈ wsX6_addLast := fun _ h => List.mem_cons_of_mem _ (List.mem_append_left _ (List.mem_append_left _ (List.mem_append_left _ (List.mem_append_right _ h))))
theorem iw_X6_addLast__X3 : ∀ w ∈ wsX30, w ∈ wsX6_addLast := fun _ h => List.mem_cons_of_mem _ (List.mem_append_left _ (List.mem_append_left _ (List.mem_append_left _ (List.mem_append_left _ (List.mem_append_right _ h)))))
theorem iw_X6_addLast__X4 : ∀ w ∈ wsX40, w ∈ wsX6_addLast := fun _ h => List.mem_cons_of_mem _ (List.mem_append_right _ h)
theorem iw_X6_addLast__X6 : ∀ w ∈ wsX60, w ∈ wsX6_addLast := fun _ h => List.mem_cons_of_mem _ (List.mem_append_left _ (List.mem_append_left _ (List.mem_append_left _ (List.mem_append_left _ (List.mem_append_left _ (List.mem_append_right _ h))))))
theorem iw_X6_addLast__X7 : ∀ w ∈ wsX70, w ∈ wsX6_addLast := fun _ h => List.mem_cons_of_mem _ (List.mem_append_left _ (List.mem_append_left _ (List.mem_append_right _ h)))
theorem iw_X6_beginAtStage__X3 : ∀ w ∈ wsX30, w ∈ wsX6_beginAtStage := fun _ h => List.mem_cons_of_mem _ (List.mem_append_left _ (List.mem_append_right _ h))
theorem iw_X6_beginAtStage__X4 : ∀ w ∈ wsX40, w ∈ wsX6_beginAtStage := fun _ h => List.mem_cons_of_mem _ (List.mem_append_left _ (List.mem_append_left _ (List.mem_append_right _ h)))
theorem iw_X6_beginAtStage__X6 : ∀ w ∈ wsX60, w ∈ wsX6_beginAtStage := fun _ h => List.mem_cons_of_mem _ (List.mem_append_left _ (List.mem_append_left _ (List.mem_append_left _ (List.mem_append_left _ (List.mem_append_right _ h)))))
theorem iw_X6_beginAtStage__X7 : ∀ w ∈ wsX70, w ∈ wsX6_beginAtStage := fun _ h => List.mem_cons_of_mem _ (List.mem_append_right _ h)
theorem iw_X6_beginAtStage__X8 : ∀ w ∈ wsX80, w ∈ wsX6_beginAtStage := fun _ h => List.mem_cons_of_mem _ (List.mem_append_left _ (List.mem_append_left _ (List.mem_append_left _ (List.mem_append_right _ h))))
theorem iw_X6_beginAtStart__X3 : ∀ w ∈ wsX30, w ∈ wsX6_beginAtStart := fun _ h => List.mem_cons_of_mem _ (List.mem_append_left _ (List.mem_append_right _ h))
theorem iw_X6_beginAtStart__X4 : ∀ w ∈ wsX40, w ∈ wsX6_beginAtStart := fun _ h => List.mem_cons_of_mem _ (List.mem_append_left _ (List.mem_append_left _ (List.mem_append_right _ h)))
theorem iw_X6_beginAtStart__X6 : ∀ w ∈ wsX60, w ∈ wsX6_beginAtStart := fun _ h => List.mem_cons_of_mem _ (List.mem_append_left _ (List.mem_append_left _ (List.mem_append_left _ (List.mem_append_right _ h))))
theorem iw_X6_beginAtStart__X7 : ∀ w ∈ wsX70, w ∈ wsX6_beginAtStart := fun _ h => List.mem_cons_of_mem _ (List.mem_append_right _ h)
theorem iw_X6_reckon__Jx00060 : ∀ w ∈ wsJx000600, w ∈ wsX6_reckon := fun _ h => List.mem_cons_of_mem _ (List.mem_append_right _ h)
theorem iw_X6_reckon__X1 : ∀ w ∈ wsX10, w ∈ wsX6_reckon := fun _ h => List.mem_cons_of_mem _ (List.mem_append_left _ (List.mem_append_left _ (List.mem_append_left _ (List.mem_append_left _ (List.mem_append_right _ h)))))
theorem iw_X6_reckon__X10 : ∀ w ∈ wsX100, w ∈ wsX6_reckon := fun _ h => List.mem_cons_of_mem _ (List.mem_append_left _ (List.mem_append_right _ h))
theorem iw_X6_reckon__X3 : ∀ w ∈ wsX30, w ∈ wsX6_reckon := fun _ h => List.mem_cons_of_mem _ (List.mem_append_left _ (List.mem_append_left _ (List.mem_append_left _ (List.mem_append_left _ (List.mem_append_left _ (List.mem_append_right _ h))))))
theorem iw_X6_reckon__X4 : ∀ w ∈ wsX40, w ∈ wsX6_reckon := fun _ h => List.mem_cons_of_mem _ (List.mem_append_left _ (List.mem_append_left _ (List.mem_append_right _ h)))
theorem iw_X6_reckon__X6 : ∀ w ∈ wsX60, w ∈ wsX6_reckon := fun _ h => List.mem_cons_of_mem _ (List.mem_append_left _ (List.mem_append_left _ (List.mem_append_left _ (List.mem_append_left _ (List.mem_append_left _ (List.mem_append_left _ (List.mem_append_right _ h)))))))
theorem iw_X6_reckon__X7 : ∀ w ∈ wsX70, w ∈ wsX6_reckon := fun _ h => List.mem_cons_of_mem _ (List.mem_append_left _ (List.mem_append_left _ (List.mem_append_left _ (List.mem_append_right _ h))))
theorem iw_X6_walk__Jx00060 : ∀ w ∈ wsJx000600, w ∈ wsX6_walk := fun _ h => List.mem_cons_of_mem _ (List.mem_append_left _ (List.mem_append_right _ h))
theorem iw_X6_walk__X1 : ∀ w ∈ wsX10, w ∈ wsX6_walk := fun _ h => List.mem_cons_of_mem _ (List.mem_append_right _ h)
theorem iw_X6_walk__X10 : ∀ w ∈ wsX100, w ∈ wsX6_walk := fun _ h => List.mem_cons_of_mem _ (List.mem_append_left _ (List.mem_append_left _ (List.mem_append_right _ h)))
theorem iw_X6_walk__X3 : ∀ w ∈ wsX30, w ∈ wsX6_walk := fun _ h => List.mem_cons_of_mem _ (List.mem_append_left _ (List.mem_append_left _ (List.mem_append_left _ (List.mem_append_left _ (List.mem_append_left _ (List.mem_append_right _ h))))))
theorem iw_X6_walk__X4 : ∀ w ∈ wsX40, w ∈ wsX6_walk := fun _ h => List.mem_cons_of_mem _ (List.mem_append_left _ (List.mem_append_left _ (List.mem_append_left _ (List.mem_append_right _ h))))
theorem iw_X6_walk__X6 : ∀ w ∈ wsX60, w ∈ wsX6_walk := fun _ h => List.mem_cons_of_mem _ (List.mem_append_left _ (List.mem_append_left _ (List.mem_append_left _ (List.mem_append_left _ (List.mem_append_left _ (List.mem_append_left _ (List.mem_append_right _ h)))))))
theorem iw_X6_walk__X7 : ∀ w ∈ wsX70, w ∈ wsX6_walk := fun _ h => List.mem_cons_of_mem _ (List.mem_append_left _ (List.mem_append_left _ (List.mem_append_left _ (List.mem_append_left _ (List.mem_append_right _ h)))))
theorem iw_X7_begin__X7 : ∀ w ∈ wsX70, w ∈ wsX7_begin := fun _ h => List.mem_cons_of_mem _ (List.mem_append_right _ h)
theorem iw_X7_fieldBall__X4 : ∀ w ∈ wsX40, w ∈ wsX7_fieldBall := fun _ h => List.mem_cons_of_mem _ (List.mem_append_right _ h)
theorem iw_X7_fieldBall__X7 : ∀ w ∈ wsX70, w ∈ wsX7_fieldBall := fun _ h => List.mem_cons_of_mem _ (List.mem_append_left _ (List.mem_append_right _ h))
theorem iw_X7_field__X4 : ∀ w ∈ wsX40, w ∈ wsX7_field := fun _ h => List.mem_cons_of_mem _ (List.mem_append_right _ h)
theorem iw_X7_field__X7 : ∀ w ∈ wsX70, w ∈ wsX7_field := fun _ h => List.mem_cons_of_mem _ (List.mem_append_left _ (List.mem_append_right _ h))
theorem iw_X7_fillRows__X4 : ∀ w ∈ wsX40, w ∈ wsX7_fillRows := fun _ h => List.mem_cons_of_mem _ (List.mem_append_right _ h)
theorem iw_X7_fillRows__X7 : ∀ w ∈ wsX70, w ∈ wsX7_fillRows := fun _ h => List.mem_cons_of_mem _ (List.mem_append_left _ (List.mem_append_right _ h))
theorem iw_X7_groupsOpen__X4 : ∀ w ∈ wsX40, w ∈ wsX7_groupsOpen := fun _ h => List.mem_cons_of_mem _ (List.mem_append_right _ h)
theorem iw_X7_groupsOpen__X7 : ∀ w ∈ wsX70, w ∈ wsX7_groupsOpen := fun _ h => List.mem_cons_of_mem _ (List.mem_append_left _ (List.mem_append_right _ h))
theorem iw_X7_isKept__X7 : ∀ w ∈ wsX70, w ∈ wsX7_isKept := fun _ h => List.mem_cons_of_mem _ (List.mem_append_right _ h)
theorem iw_X7_keepRows__Jx00060 : ∀ w ∈ wsJx000600, w ∈ wsX7_keepRows := fun _ h => List.mem_cons_of_mem _ (List.mem_append_right _ h)
theorem iw_X7_keepRows__X4 : ∀ w ∈ wsX40, w ∈ wsX7_keepRows := fun _ h => List.mem_cons_of_mem _ (List.mem_append_left _ (List.mem_append_right _ h))
theorem iw_X7_keepRows__X7 : ∀ w ∈ wsX70, w ∈ wsX7_keepRows := fun _ h => List.mem_cons_of_mem _ (List.mem_append_left _ (List.mem_append_left _ (List.mem_append_right _ h)))
theorem iw_X7_skip__X4 : ∀ w ∈ wsX40, w ∈ wsX7_skip := fun _ h => List.mem_cons_of_mem _ (List.mem_append_right _ h)
theorem iw_X7_skip__X7 : ∀ w ∈ wsX70, w ∈ wsX7_skip := fun _ h => List.mem_cons_of_mem _ (List.mem_append_left _ (List.mem_append_right _ h))
theorem iw_X7_slotOf__X4 : ∀ w ∈ wsX40, w ∈ wsX7_slotOf := fun _ h => List.mem_cons_of_mem _ (List.mem_append_right _ h)
theorem iw_X7_slotOf__X7 : ∀ w ∈ wsX70, w ∈ wsX7_slotOf := fun _ h => List.mem_cons_of_mem _ (List.mem_append_left _ (List.mem_append_right _ h))
theorem iw_X8_allow__X3 : ∀ w ∈ wsX30, w ∈ wsX8_allow := fun _ h => List.mem_cons_of_mem _ (List.mem_append_left _ (List.mem_append_right _ h))
theorem iw_X8_allow__X4 : ∀ w ∈ wsX40, w ∈ wsX8_allow := fun _ h => List.mem_cons_of_mem _ (List.mem_append_right _ h)
theorem iw_X8_allow__X8 : ∀ w ∈ wsX80, w ∈ wsX8_allow := fun _ h => List.mem_cons_of_mem _ (List.mem_append_left _ (List.mem_append_left _ (List.mem_append_right _ h)))
theorem iw_X8_begun__X3 : ∀ w ∈ wsX30, w ∈ wsX8_begun := fun _ h => List.mem_cons_of_mem _ (List.mem_append_right _ h)
theorem iw_X8_begun__X8 : ∀ w ∈ wsX80, w ∈ wsX8_begun := fun _ h => List.mem_cons_of_mem _ (List.mem_append_left _ (List.mem_append_right _ h))
theorem iw_X8_empty__X8 : ∀ w ∈ wsX80, w ∈ wsX8_empty := fun _ h => List.mem_cons_of_mem _ (List.mem_append_right _ h)
theorem iw_X8_fullPots__X3 : ∀ w ∈ wsX30, w ∈ wsX8_fullPots := fun _ h => List.mem_cons_of_mem _ (List.mem_append_right _ h)
theorem iw_X8_fullPots__X8 : ∀ w ∈ wsX80, w ∈ wsX8_fullPots := fun _ h => List.mem_cons_of_mem _ (List.mem_append_left _ (List.mem_append_right _ h))
theorem iw_X8_latest__X8 : ∀ w ∈ wsX80, w ∈ wsX8_latest := fun _ h => List.mem_cons_of_mem _ (List.mem_append_right _ h)
theorem iw_X8_placesLeft__X3 : ∀ w ∈ wsX30, w ∈ wsX8_placesLeft := fun _ h => List.mem_cons_of_mem _ (List.mem_append_right _ h)
theorem iw_X8_placesLeft__X8 : ∀ w ∈ wsX80, w ∈ wsX8_placesLeft := fun _ h => List.mem_cons_of_mem _ (List.mem_append_left _ (List.mem_append_right _ h))
theorem iw_X8_potInTurn__X3 : ∀ w ∈ wsX30, w ∈ wsX8_potInTurn := fun _ h => List.mem_cons_of_mem _ (List.mem_append_right _ h)
theorem iw_X8_potInTurn__X8 : ∀ w ∈ wsX80, w ∈ wsX8_potInTurn := fun _ h => List.mem_cons_of_mem _ (List.mem_append_left _ (List.mem_append_right _ h))
theorem iw_X8_prefix__X3 : ∀ w ∈ wsX30, w ∈ wsX8_prefix := fun _ h => List.mem_cons_of_mem _ (List.mem_append_right _ h)
theorem iw_X8_prefix__X4 : ∀ w ∈ wsX40, w ∈ wsX8_prefix := fun _ h => List.mem_cons_of_mem _ (List.mem_append_left _ (List.mem_append_right _ h))
theorem iw_X8_prefix__X8 : ∀ w ∈ wsX80, w ∈ wsX8_prefix := fun _ h => List.mem_cons_of_mem _ (List.mem_append_left _ (List.mem_append_left _ (List.mem_append_right _ h)))
theorem iw_X8_putInTurn__X8 : ∀ w ∈ wsX80, w ∈ wsX8_putInTurn := fun _ h => List.mem_cons_of_mem _ (List.mem_append_right _ h)
theorem iw_X8_put__X8 : ∀ w ∈ wsX80, w ∈ wsX8_put := fun _ h => List.mem_cons_of_mem _ (List.mem_append_right _ h)
theorem iw_X8_rankAtLevel__X3 : ∀ w ∈ wsX30, w ∈ wsX8_rankAtLevel := fun _ h => List.mem_cons_of_mem _ (List.mem_append_right _ h)
theorem iw_X8_rankAtLevel__X4 : ∀ w ∈ wsX40, w ∈ wsX8_rankAtLevel := fun _ h => List.mem_cons_of_mem _ (List.mem_append_left _ (List.mem_append_right _ h))
theorem iw_X8_rankAtLevel__X8 : ∀ w ∈ wsX80, w ∈ wsX8_rankAtLevel := fun _ h => List.mem_cons_of_mem _ (List.mem_append_left _ (List.mem_append_left _ (List.mem_append_right _ h)))
theorem iw_X8_ranksIf__X3 : ∀ w ∈ wsX30, w ∈ wsX8_ranksIf := fun _ h => List.mem_cons_of_mem _ (List.mem_append_right _ h)
theorem iw_X8_ranksIf__X4 : ∀ w ∈ wsX40, w ∈ wsX8_ranksIf := fun _ h => List.mem_cons_of_mem _ (List.mem_append_left _ (List.mem_append_right _ h))
theorem iw_X8_ranksIf__X8 : ∀ w ∈ wsX80, w ∈ wsX8_ranksIf := fun _ h => List.mem_cons_of_mem _ (List.mem_append_left _ (List.mem_append_left _ (List.mem_append_right _ h)))
theorem iw_X8_ranksLeft__X3 : ∀ w ∈ wsX30, w ∈ wsX8_ranksLeft := fun _ h => List.mem_cons_of_mem _ (List.mem_append_right _ h)
theorem iw_X8_ranksLeft__X4 : ∀ w ∈ wsX40, w ∈ wsX8_ranksLeft := fun _ h => List.mem_cons_of_mem _ (List.mem_append_left _ (List.mem_append_right _ h))
theorem iw_X8_ranksLeft__X8 : ∀ w ∈ wsX80, w ∈ wsX8_ranksLeft := fun _ h => List.mem_cons_of_mem _ (List.mem_append_left _ (List.mem_append_left _ (List.mem_append_right _ h)))
theorem iw_X8_reason__X3 : ∀ w ∈ wsX30, w ∈ wsX8_reason := fun _ h => List.mem_cons_of_mem _ (List.mem_append_right _ h)
theorem iw_X8_reason__X8 : ∀ w ∈ wsX80, w ∈ wsX8_reason := fun _ h => List.mem_cons_of_mem _ (List.mem_append_left _ (List.mem_append_right _ h))
theorem iw_X8_rowsLeft__X3 : ∀ w ∈ wsX30, w ∈ wsX8_rowsLeft := fun _ h => List.mem_cons_of_mem _ (List.mem_append_right _ h)
theorem iw_X8_rowsLeft__X8 : ∀ w ∈ wsX80, w ∈ wsX8_rowsLeft := fun _ h => List.mem_cons_of_mem _ (List.mem_append_left _ (List.mem_append_right _ h))
theorem iw_X8_takeBack__X8 : ∀ w ∈ wsX80, w ∈ wsX8_takeBack := fun _ h => List.mem_cons_of_mem _ (List.mem_append_right _ h)
theorem iw_X9_allRows__X2 : ∀ w ∈ wsX20, w ∈ wsX9_allRows := fun _ h => List.mem_cons_of_mem _ (List.mem_append_left _ (List.mem_append_left _ (List.mem_append_right _ h)))
theorem iw_X9_allRows__X3 : ∀ w ∈ wsX30, w ∈ wsX9_allRows := fun _ h => List.mem_cons_of_mem _ (List.mem_append_left _ (List.mem_append_right _ h))
theorem iw_X9_allRows__X4 : ∀ w ∈ wsX40, w ∈ wsX9_allRows := fun _ h => List.mem_cons_of_mem _ (List.mem_append_right _ h)
theorem iw_X9_allRows__X9 : ∀ w ∈ wsX90, w ∈ wsX9_allRows := fun _ h => List.mem_cons_of_mem _ (List.mem_append_left _ (List.mem_append_left _ (List.mem_append_left _ (List.mem_append_right _ h))))
theorem iw_X9_clearRows__Jx00060 : ∀ w ∈ wsJx000600, w ∈ wsX9_clearRows := fun _ h => List.mem_cons_of_mem _ (List.mem_append_right _ h)
theorem iw_X9_clearRows__X2 : ∀ w ∈ wsX20, w ∈ wsX9_clearRows := fun _ h => List.mem_cons_of_mem _ (List.mem_append_left _ (List.mem_append_right _ h))
theorem iw_X9_clearRows__X9 : ∀ w ∈ wsX90, w ∈ wsX9_clearRows := fun _ h => List.mem_cons_of_mem _ (List.mem_append_left _ (List.mem_append_left _ (List.mem_append_right _ h)))
theorem iw_X9_findParts__Jx00060 : ∀ w ∈ wsJx000600, w ∈ wsX9_findParts := fun _ h => List.mem_cons_of_mem _ (List.mem_append_left _ (List.mem_append_left _ (List.mem_append_right _ h)))
theorem iw_X9_findParts__X2 : ∀ w ∈ wsX20, w ∈ wsX9_findParts := fun _ h => List.mem_cons_of_mem _ (List.mem_append_left _ (List.mem_append_left _ (List.mem_append_left _ (List.mem_append_right _ h))))
theorem iw_X9_findParts__X3 : ∀ w ∈ wsX30, w ∈ wsX9_findParts := fun _ h => List.mem_cons_of_mem _ (List.mem_append_left _ (List.mem_append_right _ h))
theorem iw_X9_findParts__X4 : ∀ w ∈ wsX40, w ∈ wsX9_findParts := fun _ h => List.mem_cons_of_mem _ (List.mem_append_right _ h)
theorem iw_X9_findParts__X9 : ∀ w ∈ wsX90, w ∈ wsX9_findParts := fun _ h => List.mem_cons_of_mem _ (List.mem_append_left _ (List.mem_append_left _ (List.mem_append_left _ (List.mem_append_left _ (List.mem_append_right _ h)))))
theorem iw_X9_forget__X9 : ∀ w ∈ wsX90, w ∈ wsX9_forget := fun _ h => List.mem_cons_of_mem _ (List.mem_append_right _ h)
theorem iw_X9_howManyParts__Jx00060 : ∀ w ∈ wsJx000600, w ∈ wsX9_howManyParts := fun _ h => List.mem_cons_of_mem _ (List.mem_append_left _ (List.mem_append_left _ (List.mem_append_right _ h)))
theorem iw_X9_howManyParts__X2 : ∀ w ∈ wsX20, w ∈ wsX9_howManyParts := fun _ h => List.mem_cons_of_mem _ (List.mem_append_left _ (List.mem_append_left _ (List.mem_append_left _ (List.mem_append_right _ h))))
theorem iw_X9_howManyParts__X3 : ∀ w ∈ wsX30, w ∈ wsX9_howManyParts := fun _ h => List.mem_cons_of_mem _ (List.mem_append_left _ (List.mem_append_right _ h))
theorem iw_X9_howManyParts__X4 : ∀ w ∈ wsX40, w ∈ wsX9_howManyParts := fun _ h => List.mem_cons_of_mem _ (List.mem_append_right _ h)
theorem iw_X9_howManyParts__X9 : ∀ w ∈ wsX90, w ∈ wsX9_howManyParts := fun _ h => List.mem_cons_of_mem _ (List.mem_append_left _ (List.mem_append_left _ (List.mem_append_left _ (List.mem_append_left _ (List.mem_append_right _ h)))))
theorem iw_X9_meetSwapped__X2 : ∀ w ∈ wsX20, w ∈ wsX9_meetSwapped := fun _ h => List.mem_cons_of_mem _ (List.mem_append_left _ (List.mem_append_left _ (List.mem_append_right _ h)))
theorem iw_X9_meetSwapped__X3 : ∀ w ∈ wsX30, w ∈ wsX9_meetSwapped := fun _ h => List.mem_cons_of_mem _ (List.mem_append_left _ (List.mem_append_right _ h))
theorem iw_X9_meetSwapped__X4 : ∀ w ∈ wsX40, w ∈ wsX9_meetSwapped := fun _ h => List.mem_cons_of_mem _ (List.mem_append_right _ h)
theorem iw_X9_meetSwapped__X9 : ∀ w ∈ wsX90, w ∈ wsX9_meetSwapped := fun _ h => List.mem_cons_of_mem _ (List.mem_append_left _ (List.mem_append_left _ (List.mem_append_left _ (List.mem_append_right _ h))))
theorem iw_X9_meet__X9 : ∀ w ∈ wsX90, w ∈ wsX9_meet := fun _ h => List.mem_cons_of_mem _ (List.mem_append_right _ h)
theorem iw_X9_pass__X2 : ∀ w ∈ wsX20, w ∈ wsX9_pass := fun _ h => List.mem_cons_of_mem _ (List.mem_append_left _ (List.mem_append_left _ (List.mem_append_right _ h)))
theorem iw_X9_pass__X3 : ∀ w ∈ wsX30, w ∈ wsX9_pass := fun _ h => List.mem_cons_of_mem _ (List.mem_append_left _ (List.mem_append_right _ h))
theorem iw_X9_pass__X4 : ∀ w ∈ wsX40, w ∈ wsX9_pass := fun _ h => List.mem_cons_of_mem _ (List.mem_append_right _ h)
theorem iw_X9_pass__X9 : ∀ w ∈ wsX90, w ∈ wsX9_pass := fun _ h => List.mem_cons_of_mem _ (List.mem_append_left _ (List.mem_append_left _ (List.mem_append_left _ (List.mem_append_right _ h))))
theorem iw_X9_rowsTo__Jx00060 : ∀ w ∈ wsJx000600, w ∈ wsX9_rowsTo := fun _ h => List.mem_cons_of_mem _ (List.mem_append_left _ (List.mem_append_left _ (List.mem_append_right _ h)))
theorem iw_X9_rowsTo__X2 : ∀ w ∈ wsX20, w ∈ wsX9_rowsTo := fun _ h => List.mem_cons_of_mem _ (List.mem_append_left _ (List.mem_append_left _ (List.mem_append_left _ (List.mem_append_right _ h))))
theorem iw_X9_rowsTo__X3 : ∀ w ∈ wsX30, w ∈ wsX9_rowsTo := fun _ h => List.mem_cons_of_mem _ (List.mem_append_left _ (List.mem_append_right _ h))
theorem iw_X9_rowsTo__X4 : ∀ w ∈ wsX40, w ∈ wsX9_rowsTo := fun _ h => List.mem_cons_of_mem _ (List.mem_append_right _ h)
theorem iw_X9_rowsTo__X9 : ∀ w ∈ wsX90, w ∈ wsX9_rowsTo := fun _ h => List.mem_cons_of_mem _ (List.mem_append_left _ (List.mem_append_left _ (List.mem_append_left _ (List.mem_append_left _ (List.mem_append_right _ h)))))
theorem iw_X9_sizeOfFirstPart__Jx00060 : ∀ w ∈ wsJx000600, w ∈ wsX9_sizeOfFirstPart := fun _ h => List.mem_cons_of_mem _ (List.mem_append_left _ (List.mem_append_left _ (List.mem_append_right _ h)))
theorem iw_X9_sizeOfFirstPart__X2 : ∀ w ∈ wsX20, w ∈ wsX9_sizeOfFirstPart := fun _ h => List.mem_cons_of_mem _ (List.mem_append_left _ (List.mem_append_left _ (List.mem_append_left _ (List.mem_append_right _ h))))
theorem iw_X9_sizeOfFirstPart__X3 : ∀ w ∈ wsX30, w ∈ wsX9_sizeOfFirstPart := fun _ h => List.mem_cons_of_mem _ (List.mem_append_left _ (List.mem_append_right _ h))
theorem iw_X9_sizeOfFirstPart__X4 : ∀ w ∈ wsX40, w ∈ wsX9_sizeOfFirstPart := fun _ h => List.mem_cons_of_mem _ (List.mem_append_right _ h)
theorem iw_X9_sizeOfFirstPart__X9 : ∀ w ∈ wsX90, w ∈ wsX9_sizeOfFirstPart := fun _ h => List.mem_cons_of_mem _ (List.mem_append_left _ (List.mem_append_left _ (List.mem_append_left _ (List.mem_append_left _ (List.mem_append_right _ h)))))
theorem iw_X9_sizeOfGreatestPart__Jx00060 : ∀ w ∈ wsJx000600, w ∈ wsX9_sizeOfGreatestPart := fun _ h => List.mem_cons_of_mem _ (List.mem_append_left _ (List.mem_append_left _ (List.mem_append_right _ h)))
theorem iw_X9_sizeOfGreatestPart__X2 : ∀ w ∈ wsX20, w ∈ wsX9_sizeOfGreatestPart := fun _ h => List.mem_cons_of_mem _ (List.mem_append_left _ (List.mem_append_left _ (List.mem_append_left _ (List.mem_append_right _ h))))
theorem iw_X9_sizeOfGreatestPart__X3 : ∀ w ∈ wsX30, w ∈ wsX9_sizeOfGreatestPart := fun _ h => List.mem_cons_of_mem _ (List.mem_append_left _ (List.mem_append_right _ h))
theorem iw_X9_sizeOfGreatestPart__X4 : ∀ w ∈ wsX40, w ∈ wsX9_sizeOfGreatestPart := fun _ h => List.mem_cons_of_mem _ (List.mem_append_right _ h)
theorem iw_X9_sizeOfGreatestPart__X9 : ∀ w ∈ wsX90, w ∈ wsX9_sizeOfGreatestPart := fun _ h => List.mem_cons_of_mem _ (List.mem_append_left _ (List.mem_append_left _ (List.mem_append_left _ (List.mem_append_left _ (List.mem_append_right _ h)))))
theorem iw_X9_sizeOfPart__X2 : ∀ w ∈ wsX20, w ∈ wsX9_sizeOfPart := fun _ h => List.mem_cons_of_mem _ (List.mem_append_left _ (List.mem_append_left _ (List.mem_append_right _ h)))
theorem iw_X9_sizeOfPart__X3 : ∀ w ∈ wsX30, w ∈ wsX9_sizeOfPart := fun _ h => List.mem_cons_of_mem _ (List.mem_append_left _ (List.mem_append_right _ h))
theorem iw_X9_sizeOfPart__X4 : ∀ w ∈ wsX40, w ∈ wsX9_sizeOfPart := fun _ h => List.mem_cons_of_mem _ (List.mem_append_right _ h)
theorem iw_X9_sizeOfPart__X9 : ∀ w ∈ wsX90, w ∈ wsX9_sizeOfPart := fun _ h => List.mem_cons_of_mem _ (List.mem_append_left _ (List.mem_append_left _ (List.mem_append_left _ (List.mem_append_right _ h))))
theorem iw_X9_swapOnce__Jx00060 : ∀ w ∈ wsJx000600, w ∈ wsX9_swapOnce := fun _ h => List.mem_cons_of_mem _ (List.mem_append_left _ (List.mem_append_left _ (List.mem_append_right _ h)))
theorem iw_X9_swapOnce__X2 : ∀ w ∈ wsX20, w ∈ wsX9_swapOnce := fun _ h => List.mem_cons_of_mem _ (List.mem_append_left _ (List.mem_append_left _ (List.mem_append_left _ (List.mem_append_right _ h))))
theorem iw_X9_swapOnce__X3 : ∀ w ∈ wsX30, w ∈ wsX9_swapOnce := fun _ h => List.mem_cons_of_mem _ (List.mem_append_left _ (List.mem_append_right _ h))
theorem iw_X9_swapOnce__X4 : ∀ w ∈ wsX40, w ∈ wsX9_swapOnce := fun _ h => List.mem_cons_of_mem _ (List.mem_append_right _ h)
theorem iw_X9_swapOnce__X9 : ∀ w ∈ wsX90, w ∈ wsX9_swapOnce := fun _ h => List.mem_cons_of_mem _ (List.mem_append_left _ (List.mem_append_left _ (List.mem_append_left _ (List.mem_append_left _ (List.mem_append_right _ h)))))
theorem iw_X9_swapTimes__Jx00060 : ∀ w ∈ wsJx000600, w ∈ wsX9_swapTimes := fun _ h => List.mem_cons_of_mem _ (List.mem_append_left _ (List.mem_append_left _ (List.mem_append_right _ h)))
theorem iw_X9_swapTimes__X2 : ∀ w ∈ wsX20, w ∈ wsX9_swapTimes := fun _ h => List.mem_cons_of_mem _ (List.mem_append_left _ (List.mem_append_left _ (List.mem_append_left _ (List.mem_append_right _ h))))
theorem iw_X9_swapTimes__X3 : ∀ w ∈ wsX30, w ∈ wsX9_swapTimes := fun _ h => List.mem_cons_of_mem _ (List.mem_append_left _ (List.mem_append_right _ h))
theorem iw_X9_swapTimes__X4 : ∀ w ∈ wsX40, w ∈ wsX9_swapTimes := fun _ h => List.mem_cons_of_mem _ (List.mem_append_right _ h)
theorem iw_X9_swapTimes__X9 : ∀ w ∈ wsX90, w ∈ wsX9_swapTimes := fun _ h => List.mem_cons_of_mem _ (List.mem_append_left _ (List.mem_append_left _ (List.mem_append_left _ (List.mem_append_left _ (List.mem_append_right _ h)))))
theorem iw_X9_uneven__Jx00060 : ∀ w ∈ wsJx000600, w ∈ wsX9_uneven := fun _ h => List.mem_cons_of_mem _ (List.mem_append_left _ (List.mem_append_left _ (List.mem_append_right _ h)))
theorem iw_X9_uneven__X2 : ∀ w ∈ wsX20, w ∈ wsX9_uneven := fun _ h => List.mem_cons_of_mem _ (List.mem_append_left _ (List.mem_append_left _ (List.mem_append_left _ (List.mem_append_right _ h))))
theorem iw_X9_uneven__X3 : ∀ w ∈ wsX30, w ∈ wsX9_uneven := fun _ h => List.mem_cons_of_mem _ (List.mem_append_left _ (List.mem_append_right _ h))
theorem iw_X9_uneven__X4 : ∀ w ∈ wsX40, w ∈ wsX9_uneven := fun _ h => List.mem_cons_of_mem _ (List.mem_append_right _ h)
theorem iw_X9_uneven__X9 : ∀ w ∈ wsX90, w ∈ wsX9_uneven := fun _ h => List.mem_cons_of_mem _ (List.mem_append_left _ (List.mem_append_left _ (List.mem_append_left _ (List.mem_append_left _ (List.mem_append_right _ h)))))
theorem pn_J6_bitCount_0f7a4 : plainName yJ6_bitCount_0f7a4.cls = true := by decide +kernel
theorem pn_J7_fill_53178 : plainName yJ7_fill_53178.cls = true := by decide +kernel
theorem pn_J7_fill_bad5a : plainName yJ7_fill_bad5a.cls = true := by decide +kernel
theorem pn_J7_fill_d0a16 : plainName yJ7_fill_d0a16.cls = true := by decide +kernel
theorem pn_J7_fill_fda19 : plainName yJ7_fill_fda19.cls = true := by decide +kernel
theorem pn_J7_rangeCheck_23922 : plainName yJ7_rangeCheck_23922.cls = true := by decide +kernel
theorem pn_X0_addDraw : plainName yX0_addDraw.cls = true := by decide +kernel
theorem pn_X0_firstKind : plainName yX0_firstKind.cls = true := by decide +kernel
theorem pn_X0_isEvenEnough : plainName yX0_isEvenEnough.cls = true := by decide +kernel
theorem pn_X0_kindOf : plainName yX0_kindOf.cls = true := by decide +kernel
theorem pn_X0_pairsWithout : plainName yX0_pairsWithout.cls = true := by decide +kernel
theorem pn_X0_refresh : plainName yX0_refresh.cls = true := by decide +kernel
theorem pn_X10_build : plainName yX10_build.cls = true := by decide +kernel
theorem pn_X10_codeOf : plainName yX10_codeOf.cls = true := by decide +kernel
theorem pn_X10_fillFromNext : plainName yX10_fillFromNext.cls = true := by decide +kernel
theorem pn_X10_fillLast : plainName yX10_fillLast.cls = true := by decide +kernel
theorem pn_X10_ranksOpen : plainName yX10_ranksOpen.cls = true := by decide +kernel
theorem pn_X11_all : plainName yX11_all.cls = true := by decide +kernel
theorem pn_X11_apart : plainName yX11_apart.cls = true := by decide +kernel
theorem pn_X11_apartByArrangement : plainName yX11_apartByArrangement.cls = true := by decide +kernel
theorem pn_X11_apartByOrder : plainName yX11_apartByOrder.cls = true := by decide +kernel
theorem pn_X11_arrange : plainName yX11_arrange.cls = true := by decide +kernel
theorem pn_X11_ball : plainName yX11_ball.cls = true := by decide +kernel
theorem pn_X11_beginAnew : plainName yX11_beginAnew.cls = true := by decide +kernel
theorem pn_X11_bitsOf : plainName yX11_bitsOf.cls = true := by decide +kernel
theorem pn_X11_blame : plainName yX11_blame.cls = true := by decide +kernel
theorem pn_X11_chancesAtStart : plainName yX11_chancesAtStart.cls = true := by decide +kernel
theorem pn_X11_chancesNow : plainName yX11_chancesNow.cls = true := by decide +kernel
theorem pn_X11_clear : plainName yX11_clear.cls = true := by decide +kernel
theorem pn_X11_count : plainName yX11_count.cls = true := by decide +kernel
theorem pn_X11_draw : plainName yX11_draw.cls = true := by decide +kernel
theorem pn_X11_ends : plainName yX11_ends.cls = true := by decide +kernel
theorem pn_X11_evenly : plainName yX11_evenly.cls = true := by decide +kernel
theorem pn_X11_far : plainName yX11_far.cls = true := by decide +kernel
theorem pn_X11_farthest : plainName yX11_farthest.cls = true := by decide +kernel
theorem pn_X11_fault : plainName yX11_fault.cls = true := by decide +kernel
theorem pn_X11_feed : plainName yX11_feed.cls = true := by decide +kernel
theorem pn_X11_findNearest : plainName yX11_findNearest.cls = true := by decide +kernel
theorem pn_X11_forbids : plainName yX11_forbids.cls = true := by decide +kernel
theorem pn_X11_isBar : plainName yX11_isBar.cls = true := by decide +kernel
theorem pn_X11_isCode : plainName yX11_isCode.cls = true := by decide +kernel
theorem pn_X11_isGroup : plainName yX11_isGroup.cls = true := by decide +kernel
theorem pn_X11_isTeam : plainName yX11_isTeam.cls = true := by decide +kernel
theorem pn_X11_isWay : plainName yX11_isWay.cls = true := by decide +kernel
theorem pn_X11_judge : plainName yX11_judge.cls = true := by decide +kernel
theorem pn_X11_lawful : plainName yX11_lawful.cls = true := by decide +kernel
theorem pn_X11_leads : plainName yX11_leads.cls = true := by decide +kernel
theorem pn_X11_leave : plainName yX11_leave.cls = true := by decide +kernel
theorem pn_X11_likeAnEarlierOne : plainName yX11_likeAnEarlierOne.cls = true := by decide +kernel
theorem pn_X11_mix : plainName yX11_mix.cls = true := by decide +kernel
theorem pn_X11_mixed : plainName yX11_mixed.cls = true := by decide +kernel
theorem pn_X11_moves : plainName yX11_moves.cls = true := by decide +kernel
theorem pn_X11_named : plainName yX11_named.cls = true := by decide +kernel
theorem pn_X11_nearest : plainName yX11_nearest.cls = true := by decide +kernel
theorem pn_X11_nthOf : plainName yX11_nthOf.cls = true := by decide +kernel
theorem pn_X11_numberAfter : plainName yX11_numberAfter.cls = true := by decide +kernel
theorem pn_X11_order : plainName yX11_order.cls = true := by decide +kernel
theorem pn_X11_pair : plainName yX11_pair.cls = true := by decide +kernel
theorem pn_X11_parts : plainName yX11_parts.cls = true := by decide +kernel
theorem pn_X11_place : plainName yX11_place.cls = true := by decide +kernel
theorem pn_X11_placed : plainName yX11_placed.cls = true := by decide +kernel
theorem pn_X11_readTurns : plainName yX11_readTurns.cls = true := by decide +kernel
theorem pn_X11_run : plainName yX11_run.cls = true := by decide +kernel
theorem pn_X11_sizeOfFarthest : plainName yX11_sizeOfFarthest.cls = true := by decide +kernel
theorem pn_X11_stageChanged : plainName yX11_stageChanged.cls = true := by decide +kernel
theorem pn_X11_startChanged : plainName yX11_startChanged.cls = true := by decide +kernel
theorem pn_X11_sumOfFar : plainName yX11_sumOfFar.cls = true := by decide +kernel
theorem pn_X11_tapeFour : plainName yX11_tapeFour.cls = true := by decide +kernel
theorem pn_X11_text : plainName yX11_text.cls = true := by decide +kernel
theorem pn_X11_treeOfNow : plainName yX11_treeOfNow.cls = true := by decide +kernel
theorem pn_X11_undo : plainName yX11_undo.cls = true := by decide +kernel
theorem pn_X11_why : plainName yX11_why.cls = true := by decide +kernel
theorem pn_X11_without : plainName yX11_without.cls = true := by decide +kernel
theorem pn_X1_forget : plainName yX1_forget.cls = true := by decide +kernel
theorem pn_X1_ofPair : plainName yX1_ofPair.cls = true := by decide +kernel
theorem pn_X1_ofPlace : plainName yX1_ofPlace.cls = true := by decide +kernel
theorem pn_X2_addUp : plainName yX2_addUp.cls = true := by decide +kernel
theorem pn_X2_breakBar : plainName yX2_breakBar.cls = true := by decide +kernel
theorem pn_X2_fewest : plainName yX2_fewest.cls = true := by decide +kernel
theorem pn_X2_fewestAgainst : plainName yX2_fewestAgainst.cls = true := by decide +kernel
theorem pn_X2_firstLawful : plainName yX2_firstLawful.cls = true := by decide +kernel
theorem pn_X2_fits : plainName yX2_fits.cls = true := by decide +kernel
theorem pn_X2_groupIn : plainName yX2_groupIn.cls = true := by decide +kernel
theorem pn_X2_listLawful : plainName yX2_listLawful.cls = true := by decide +kernel
theorem pn_X2_rankIn : plainName yX2_rankIn.cls = true := by decide +kernel
theorem pn_X2_renew : plainName yX2_renew.cls = true := by decide +kernel
theorem pn_X2_tellHeld : plainName yX2_tellHeld.cls = true := by decide +kernel
theorem pn_X2_tellWithin : plainName yX2_tellWithin.cls = true := by decide +kernel
theorem pn_X3_addAtMost : plainName yX3_addAtMost.cls = true := by decide +kernel
theorem pn_X3_addBar : plainName yX3_addBar.cls = true := by decide +kernel
theorem pn_X3_addFixed : plainName yX3_addFixed.cls = true := by decide +kernel
theorem pn_X3_addMark : plainName yX3_addMark.cls = true := by decide +kernel
theorem pn_X3_addNever : plainName yX3_addNever.cls = true := by decide +kernel
theorem pn_X3_addTeam : plainName yX3_addTeam.cls = true := by decide +kernel
theorem pn_X3_find : plainName yX3_find.cls = true := by decide +kernel
theorem pn_X3_forget : plainName yX3_forget.cls = true := by decide +kernel
theorem pn_X3_isGroupNamed : plainName yX3_isGroupNamed.cls = true := by decide +kernel
theorem pn_X3_markNamed : plainName yX3_markNamed.cls = true := by decide +kernel
theorem pn_X3_nextPotAfter : plainName yX3_nextPotAfter.cls = true := by decide +kernel
theorem pn_X3_placeOf : plainName yX3_placeOf.cls = true := by decide +kernel
theorem pn_X3_potOf : plainName yX3_potOf.cls = true := by decide +kernel
theorem pn_X3_take : plainName yX3_take.cls = true := by decide +kernel
theorem pn_X3_teamNamed : plainName yX3_teamNamed.cls = true := by decide +kernel
theorem pn_X3_teamsMarked : plainName yX3_teamsMarked.cls = true := by decide +kernel
theorem pn_X4_addRow : plainName yX4_addRow.cls = true := by decide +kernel
theorem pn_X4_firstOpen : plainName yX4_firstOpen.cls = true := by decide +kernel
theorem pn_X4_groupAt : plainName yX4_groupAt.cls = true := by decide +kernel
theorem pn_X4_groupWith : plainName yX4_groupWith.cls = true := by decide +kernel
theorem pn_X4_only : plainName yX4_only.cls = true := by decide +kernel
theorem pn_X4_rankWithSwapped : plainName yX4_rankWithSwapped.cls = true := by decide +kernel
theorem pn_X4_readRow : plainName yX4_readRow.cls = true := by decide +kernel
theorem pn_X4_set : plainName yX4_set.cls = true := by decide +kernel
theorem pn_X4_setSwaps : plainName yX4_setSwaps.cls = true := by decide +kernel
theorem pn_X5_fail : plainName yX5_fail.cls = true := by decide +kernel
theorem pn_X5_isBlank : plainName yX5_isBlank.cls = true := by decide +kernel
theorem pn_X5_isDigit : plainName yX5_isDigit.cls = true := by decide +kernel
theorem pn_X5_isLetter : plainName yX5_isLetter.cls = true := by decide +kernel
theorem pn_X5_isName : plainName yX5_isName.cls = true := by decide +kernel
theorem pn_X5_isNumber : plainName yX5_isNumber.cls = true := by decide +kernel
theorem pn_X5_isOfLanguage : plainName yX5_isOfLanguage.cls = true := by decide +kernel
theorem pn_X5_isRoomForBar : plainName yX5_isRoomForBar.cls = true := by decide +kernel
theorem pn_X5_readApart : plainName yX5_readApart.cls = true := by decide +kernel
theorem pn_X5_readAtMost : plainName yX5_readAtMost.cls = true := by decide +kernel
theorem pn_X5_readGroups : plainName yX5_readGroups.cls = true := by decide +kernel
theorem pn_X5_readHeld : plainName yX5_readHeld.cls = true := by decide +kernel
theorem pn_X5_readLine : plainName yX5_readLine.cls = true := by decide +kernel
theorem pn_X5_readLines : plainName yX5_readLines.cls = true := by decide +kernel
theorem pn_X5_readMark : plainName yX5_readMark.cls = true := by decide +kernel
theorem pn_X5_readPot : plainName yX5_readPot.cls = true := by decide +kernel
theorem pn_X5_readStop : plainName yX5_readStop.cls = true := by decide +kernel
theorem pn_X5_readTeam : plainName yX5_readTeam.cls = true := by decide +kernel
theorem pn_X5_readUpToStop : plainName yX5_readUpToStop.cls = true := by decide +kernel
theorem pn_X5_step : plainName yX5_step.cls = true := by decide +kernel
theorem pn_X5_stepNumber : plainName yX5_stepNumber.cls = true := by decide +kernel
theorem pn_X5_stepWord : plainName yX5_stepWord.cls = true := by decide +kernel
theorem pn_X6_addAhead : plainName yX6_addAhead.cls = true := by decide +kernel
theorem pn_X6_addLast : plainName yX6_addLast.cls = true := by decide +kernel
theorem pn_X6_beginAtStage : plainName yX6_beginAtStage.cls = true := by decide +kernel
theorem pn_X6_beginAtStart : plainName yX6_beginAtStart.cls = true := by decide +kernel
theorem pn_X6_reckon : plainName yX6_reckon.cls = true := by decide +kernel
theorem pn_X6_walk : plainName yX6_walk.cls = true := by decide +kernel
theorem pn_X7_begin : plainName yX7_begin.cls = true := by decide +kernel
theorem pn_X7_field : plainName yX7_field.cls = true := by decide +kernel
theorem pn_X7_fieldBall : plainName yX7_fieldBall.cls = true := by decide +kernel
theorem pn_X7_fillRows : plainName yX7_fillRows.cls = true := by decide +kernel
theorem pn_X7_groupsOpen : plainName yX7_groupsOpen.cls = true := by decide +kernel
theorem pn_X7_isKept : plainName yX7_isKept.cls = true := by decide +kernel
theorem pn_X7_keepRows : plainName yX7_keepRows.cls = true := by decide +kernel
theorem pn_X7_skip : plainName yX7_skip.cls = true := by decide +kernel
theorem pn_X7_slotOf : plainName yX7_slotOf.cls = true := by decide +kernel
theorem pn_X8_allow : plainName yX8_allow.cls = true := by decide +kernel
theorem pn_X8_begun : plainName yX8_begun.cls = true := by decide +kernel
theorem pn_X8_empty : plainName yX8_empty.cls = true := by decide +kernel
theorem pn_X8_fullPots : plainName yX8_fullPots.cls = true := by decide +kernel
theorem pn_X8_latest : plainName yX8_latest.cls = true := by decide +kernel
theorem pn_X8_placesLeft : plainName yX8_placesLeft.cls = true := by decide +kernel
theorem pn_X8_potInTurn : plainName yX8_potInTurn.cls = true := by decide +kernel
theorem pn_X8_prefix : plainName yX8_prefix.cls = true := by decide +kernel
theorem pn_X8_put : plainName yX8_put.cls = true := by decide +kernel
theorem pn_X8_putInTurn : plainName yX8_putInTurn.cls = true := by decide +kernel
theorem pn_X8_rankAtLevel : plainName yX8_rankAtLevel.cls = true := by decide +kernel
theorem pn_X8_ranksIf : plainName yX8_ranksIf.cls = true := by decide +kernel
theorem pn_X8_ranksLeft : plainName yX8_ranksLeft.cls = true := by decide +kernel
theorem pn_X8_reason : plainName yX8_reason.cls = true := by decide +kernel
theorem pn_X8_rowsLeft : plainName yX8_rowsLeft.cls = true := by decide +kernel
theorem pn_X8_takeBack : plainName yX8_takeBack.cls = true := by decide +kernel
theorem pn_X9_allRows : plainName yX9_allRows.cls = true := by decide +kernel
theorem pn_X9_clearRows : plainName yX9_clearRows.cls = true := by decide +kernel
theorem pn_X9_findParts : plainName yX9_findParts.cls = true := by decide +kernel
theorem pn_X9_forget : plainName yX9_forget.cls = true := by decide +kernel
theorem pn_X9_howManyParts : plainName yX9_howManyParts.cls = true := by decide +kernel
theorem pn_X9_meet : plainName yX9_meet.cls = true := by decide +kernel
theorem pn_X9_meetSwapped : plainName yX9_meetSwapped.cls = true := by decide +kernel
theorem pn_X9_pass : plainName yX9_pass.cls = true := by decide +kernel
theorem pn_X9_rowsTo : plainName yX9_rowsTo.cls = true := by decide +kernel
theorem pn_X9_sizeOfFirstPart : plainName yX9_sizeOfFirstPart.cls = true := by decide +kernel
theorem pn_X9_sizeOfGreatestPart : plainName yX9_sizeOfGreatestPart.cls = true := by decide +kernel
theorem pn_X9_sizeOfPart : plainName yX9_sizeOfPart.cls = true := by decide +kernel
theorem pn_X9_swapOnce : plainName yX9_swapOnce.cls = true := by decide +kernel
theorem pn_X9_swapTimes : plainName yX9_swapTimes.cls = true := by decide +kernel
theorem pn_X9_uneven : plainName yX9_uneven.cls = true := by decide +kernel
theorem ydS_J6_bitCount_0f7a4 : yJ6_bitCount_0f7a4.cls ≠ "java/lang/invoke/MethodHandle" ∧ yJ6_bitCount_0f7a4.cls ≠ "java/lang/invoke/VarHandle" ∧ (parseMethodDescriptor yJ6_bitCount_0f7a4.desc).map (fun d => d.parameters.length) = some 1 := by decide +kernel
theorem ydS_J7_fill_53178 : yJ7_fill_53178.cls ≠ "java/lang/invoke/MethodHandle" ∧ yJ7_fill_53178.cls ≠ "java/lang/invoke/VarHandle" ∧ (parseMethodDescriptor yJ7_fill_53178.desc).map (fun d => d.parameters.length) = some 2 := by decide +kernel
theorem ydS_J7_fill_bad5a : yJ7_fill_bad5a.cls ≠ "java/lang/invoke/MethodHandle" ∧ yJ7_fill_bad5a.cls ≠ "java/lang/invoke/VarHandle" ∧ (parseMethodDescriptor yJ7_fill_bad5a.desc).map (fun d => d.parameters.length) = some 4 := by decide +kernel
theorem ydS_J7_fill_d0a16 : yJ7_fill_d0a16.cls ≠ "java/lang/invoke/MethodHandle" ∧ yJ7_fill_d0a16.cls ≠ "java/lang/invoke/VarHandle" ∧ (parseMethodDescriptor yJ7_fill_d0a16.desc).map (fun d => d.parameters.length) = some 2 := by decide +kernel
theorem ydS_J7_fill_fda19 : yJ7_fill_fda19.cls ≠ "java/lang/invoke/MethodHandle" ∧ yJ7_fill_fda19.cls ≠ "java/lang/invoke/VarHandle" ∧ (parseMethodDescriptor yJ7_fill_fda19.desc).map (fun d => d.parameters.length) = some 4 := by decide +kernel
theorem ydS_J7_rangeCheck_23922 : yJ7_rangeCheck_23922.cls ≠ "java/lang/invoke/MethodHandle" ∧ yJ7_rangeCheck_23922.cls ≠ "java/lang/invoke/VarHandle" ∧ (parseMethodDescriptor yJ7_rangeCheck_23922.desc).map (fun d => d.parameters.length) = some 3 := by decide +kernel
theorem ydS_X0_firstKind : yX0_firstKind.cls ≠ "java/lang/invoke/MethodHandle" ∧ yX0_firstKind.cls ≠ "java/lang/invoke/VarHandle" ∧ (parseMethodDescriptor yX0_firstKind.desc).map (fun d => d.parameters.length) = some 1 := by decide +kernel
theorem ydS_X0_kindOf : yX0_kindOf.cls ≠ "java/lang/invoke/MethodHandle" ∧ yX0_kindOf.cls ≠ "java/lang/invoke/VarHandle" ∧ (parseMethodDescriptor yX0_kindOf.desc).map (fun d => d.parameters.length) = some 2 := by decide +kernel
theorem ydS_X11_bitsOf : yX11_bitsOf.cls ≠ "java/lang/invoke/MethodHandle" ∧ yX11_bitsOf.cls ≠ "java/lang/invoke/VarHandle" ∧ (parseMethodDescriptor yX11_bitsOf.desc).map (fun d => d.parameters.length) = some 2 := by decide +kernel
theorem ydS_X11_far : yX11_far.cls ≠ "java/lang/invoke/MethodHandle" ∧ yX11_far.cls ≠ "java/lang/invoke/VarHandle" ∧ (parseMethodDescriptor yX11_far.desc).map (fun d => d.parameters.length) = some 4 := by decide +kernel
theorem ydS_X11_isWay : yX11_isWay.cls ≠ "java/lang/invoke/MethodHandle" ∧ yX11_isWay.cls ≠ "java/lang/invoke/VarHandle" ∧ (parseMethodDescriptor yX11_isWay.desc).map (fun d => d.parameters.length) = some 1 := by decide +kernel
theorem ydS_X11_nthOf : yX11_nthOf.cls ≠ "java/lang/invoke/MethodHandle" ∧ yX11_nthOf.cls ≠ "java/lang/invoke/VarHandle" ∧ (parseMethodDescriptor yX11_nthOf.desc).map (fun d => d.parameters.length) = some 2 := by decide +kernel
theorem ydS_X11_numberAfter : yX11_numberAfter.cls ≠ "java/lang/invoke/MethodHandle" ∧ yX11_numberAfter.cls ≠ "java/lang/invoke/VarHandle" ∧ (parseMethodDescriptor yX11_numberAfter.desc).map (fun d => d.parameters.length) = some 1 := by decide +kernel
theorem ydS_X11_readTurns : yX11_readTurns.cls ≠ "java/lang/invoke/MethodHandle" ∧ yX11_readTurns.cls ≠ "java/lang/invoke/VarHandle" ∧ (parseMethodDescriptor yX11_readTurns.desc).map (fun d => d.parameters.length) = some 3 := by decide +kernel
theorem ydS_X2_addUp : yX2_addUp.cls ≠ "java/lang/invoke/MethodHandle" ∧ yX2_addUp.cls ≠ "java/lang/invoke/VarHandle" ∧ (parseMethodDescriptor yX2_addUp.desc).map (fun d => d.parameters.length) = some 2 := by decide +kernel
theorem ydS_X2_fewest : yX2_fewest.cls ≠ "java/lang/invoke/MethodHandle" ∧ yX2_fewest.cls ≠ "java/lang/invoke/VarHandle" ∧ (parseMethodDescriptor yX2_fewest.desc).map (fun d => d.parameters.length) = some 2 := by decide +kernel
theorem ydS_X3_find : yX3_find.cls ≠ "java/lang/invoke/MethodHandle" ∧ yX3_find.cls ≠ "java/lang/invoke/VarHandle" ∧ (parseMethodDescriptor yX3_find.desc).map (fun d => d.parameters.length) = some 3 := by decide +kernel
theorem ydS_X4_only : yX4_only.cls ≠ "java/lang/invoke/MethodHandle" ∧ yX4_only.cls ≠ "java/lang/invoke/VarHandle" ∧ (parseMethodDescriptor yX4_only.desc).map (fun d => d.parameters.length) = some 1 := by decide +kernel
theorem ydS_X4_readRow : yX4_readRow.cls ≠ "java/lang/invoke/MethodHandle" ∧ yX4_readRow.cls ≠ "java/lang/invoke/VarHandle" ∧ (parseMethodDescriptor yX4_readRow.desc).map (fun d => d.parameters.length) = some 3 := by decide +kernel
theorem ydS_X5_isBlank : yX5_isBlank.cls ≠ "java/lang/invoke/MethodHandle" ∧ yX5_isBlank.cls ≠ "java/lang/invoke/VarHandle" ∧ (parseMethodDescriptor yX5_isBlank.desc).map (fun d => d.parameters.length) = some 1 := by decide +kernel
theorem ydS_X5_isDigit : yX5_isDigit.cls ≠ "java/lang/invoke/MethodHandle" ∧ yX5_isDigit.cls ≠ "java/lang/invoke/VarHandle" ∧ (parseMethodDescriptor yX5_isDigit.desc).map (fun d => d.parameters.length) = some 1 := by decide +kernel
theorem ydS_X5_isLetter : yX5_isLetter.cls ≠ "java/lang/invoke/MethodHandle" ∧ yX5_isLetter.cls ≠ "java/lang/invoke/VarHandle" ∧ (parseMethodDescriptor yX5_isLetter.desc).map (fun d => d.parameters.length) = some 1 := by decide +kernel
theorem ydS_X5_isOfLanguage : yX5_isOfLanguage.cls ≠ "java/lang/invoke/MethodHandle" ∧ yX5_isOfLanguage.cls ≠ "java/lang/invoke/VarHandle" ∧ (parseMethodDescriptor yX5_isOfLanguage.desc).map (fun d => d.parameters.length) = some 1 := by decide +kernel
theorem ydV_X0_addDraw : yX0_addDraw.cls = RX0 ∧ yX0_addDraw.cls ≠ "java/lang/invoke/MethodHandle" ∧ yX0_addDraw.cls ≠ "java/lang/invoke/VarHandle" ∧ (parseMethodDescriptor yX0_addDraw.desc).map (fun d => d.parameters.length) = some 2 := by decide +kernel
theorem ydV_X0_isEvenEnough : yX0_isEvenEnough.cls = RX0 ∧ yX0_isEvenEnough.cls ≠ "java/lang/invoke/MethodHandle" ∧ yX0_isEvenEnough.cls ≠ "java/lang/invoke/VarHandle" ∧ (parseMethodDescriptor yX0_isEvenEnough.desc).map (fun d => d.parameters.length) = some 3 := by decide +kernel
theorem ydV_X0_pairsWithout : yX0_pairsWithout.cls = RX0 ∧ yX0_pairsWithout.cls ≠ "java/lang/invoke/MethodHandle" ∧ yX0_pairsWithout.cls ≠ "java/lang/invoke/VarHandle" ∧ (parseMethodDescriptor yX0_pairsWithout.desc).map (fun d => d.parameters.length) = some 4 := by decide +kernel
theorem ydV_X0_refresh : yX0_refresh.cls = RX0 ∧ yX0_refresh.cls ≠ "java/lang/invoke/MethodHandle" ∧ yX0_refresh.cls ≠ "java/lang/invoke/VarHandle" ∧ (parseMethodDescriptor yX0_refresh.desc).map (fun d => d.parameters.length) = some 0 := by decide +kernel
theorem ydV_X10_build : yX10_build.cls = RX10 ∧ yX10_build.cls ≠ "java/lang/invoke/MethodHandle" ∧ yX10_build.cls ≠ "java/lang/invoke/VarHandle" ∧ (parseMethodDescriptor yX10_build.desc).map (fun d => d.parameters.length) = some 1 := by decide +kernel
theorem ydV_X10_codeOf : yX10_codeOf.cls = RX10 ∧ yX10_codeOf.cls ≠ "java/lang/invoke/MethodHandle" ∧ yX10_codeOf.cls ≠ "java/lang/invoke/VarHandle" ∧ (parseMethodDescriptor yX10_codeOf.desc).map (fun d => d.parameters.length) = some 2 := by decide +kernel
theorem ydV_X10_fillFromNext : yX10_fillFromNext.cls = RX10 ∧ yX10_fillFromNext.cls ≠ "java/lang/invoke/MethodHandle" ∧ yX10_fillFromNext.cls ≠ "java/lang/invoke/VarHandle" ∧ (parseMethodDescriptor yX10_fillFromNext.desc).map (fun d => d.parameters.length) = some 1 := by decide +kernel
theorem ydV_X10_fillLast : yX10_fillLast.cls = RX10 ∧ yX10_fillLast.cls ≠ "java/lang/invoke/MethodHandle" ∧ yX10_fillLast.cls ≠ "java/lang/invoke/VarHandle" ∧ (parseMethodDescriptor yX10_fillLast.desc).map (fun d => d.parameters.length) = some 0 := by decide +kernel
theorem ydV_X10_ranksOpen : yX10_ranksOpen.cls = RX10 ∧ yX10_ranksOpen.cls ≠ "java/lang/invoke/MethodHandle" ∧ yX10_ranksOpen.cls ≠ "java/lang/invoke/VarHandle" ∧ (parseMethodDescriptor yX10_ranksOpen.desc).map (fun d => d.parameters.length) = some 2 := by decide +kernel
theorem ydV_X11_apartByArrangement : yX11_apartByArrangement.cls = RX11 ∧ yX11_apartByArrangement.cls ≠ "java/lang/invoke/MethodHandle" ∧ yX11_apartByArrangement.cls ≠ "java/lang/invoke/VarHandle" ∧ (parseMethodDescriptor yX11_apartByArrangement.desc).map (fun d => d.parameters.length) = some 2 := by decide +kernel
theorem ydV_X11_apartByOrder : yX11_apartByOrder.cls = RX11 ∧ yX11_apartByOrder.cls ≠ "java/lang/invoke/MethodHandle" ∧ yX11_apartByOrder.cls ≠ "java/lang/invoke/VarHandle" ∧ (parseMethodDescriptor yX11_apartByOrder.desc).map (fun d => d.parameters.length) = some 2 := by decide +kernel
theorem ydV_X11_beginAnew : yX11_beginAnew.cls = RX11 ∧ yX11_beginAnew.cls ≠ "java/lang/invoke/MethodHandle" ∧ yX11_beginAnew.cls ≠ "java/lang/invoke/VarHandle" ∧ (parseMethodDescriptor yX11_beginAnew.desc).map (fun d => d.parameters.length) = some 0 := by decide +kernel
theorem ydV_X11_chancesAtStart : yX11_chancesAtStart.cls = RX11 ∧ yX11_chancesAtStart.cls ≠ "java/lang/invoke/MethodHandle" ∧ yX11_chancesAtStart.cls ≠ "java/lang/invoke/VarHandle" ∧ (parseMethodDescriptor yX11_chancesAtStart.desc).map (fun d => d.parameters.length) = some 1 := by decide +kernel
theorem ydV_X11_chancesNow : yX11_chancesNow.cls = RX11 ∧ yX11_chancesNow.cls ≠ "java/lang/invoke/MethodHandle" ∧ yX11_chancesNow.cls ≠ "java/lang/invoke/VarHandle" ∧ (parseMethodDescriptor yX11_chancesNow.desc).map (fun d => d.parameters.length) = some 1 := by decide +kernel
theorem ydV_X11_farthest : yX11_farthest.cls = RX11 ∧ yX11_farthest.cls ≠ "java/lang/invoke/MethodHandle" ∧ yX11_farthest.cls ≠ "java/lang/invoke/VarHandle" ∧ (parseMethodDescriptor yX11_farthest.desc).map (fun d => d.parameters.length) = some 2 := by decide +kernel
theorem ydV_X11_findNearest : yX11_findNearest.cls = RX11 ∧ yX11_findNearest.cls ≠ "java/lang/invoke/MethodHandle" ∧ yX11_findNearest.cls ≠ "java/lang/invoke/VarHandle" ∧ (parseMethodDescriptor yX11_findNearest.desc).map (fun d => d.parameters.length) = some 3 := by decide +kernel
theorem ydV_X11_isBar : yX11_isBar.cls = RX11 ∧ yX11_isBar.cls ≠ "java/lang/invoke/MethodHandle" ∧ yX11_isBar.cls ≠ "java/lang/invoke/VarHandle" ∧ (parseMethodDescriptor yX11_isBar.desc).map (fun d => d.parameters.length) = some 1 := by decide +kernel
theorem ydV_X11_isCode : yX11_isCode.cls = RX11 ∧ yX11_isCode.cls ≠ "java/lang/invoke/MethodHandle" ∧ yX11_isCode.cls ≠ "java/lang/invoke/VarHandle" ∧ (parseMethodDescriptor yX11_isCode.desc).map (fun d => d.parameters.length) = some 1 := by decide +kernel
theorem ydV_X11_isGroup : yX11_isGroup.cls = RX11 ∧ yX11_isGroup.cls ≠ "java/lang/invoke/MethodHandle" ∧ yX11_isGroup.cls ≠ "java/lang/invoke/VarHandle" ∧ (parseMethodDescriptor yX11_isGroup.desc).map (fun d => d.parameters.length) = some 1 := by decide +kernel
theorem ydV_X11_isTeam : yX11_isTeam.cls = RX11 ∧ yX11_isTeam.cls ≠ "java/lang/invoke/MethodHandle" ∧ yX11_isTeam.cls ≠ "java/lang/invoke/VarHandle" ∧ (parseMethodDescriptor yX11_isTeam.desc).map (fun d => d.parameters.length) = some 1 := by decide +kernel
theorem ydV_X11_likeAnEarlierOne : yX11_likeAnEarlierOne.cls = RX11 ∧ yX11_likeAnEarlierOne.cls ≠ "java/lang/invoke/MethodHandle" ∧ yX11_likeAnEarlierOne.cls ≠ "java/lang/invoke/VarHandle" ∧ (parseMethodDescriptor yX11_likeAnEarlierOne.desc).map (fun d => d.parameters.length) = some 1 := by decide +kernel
theorem ydV_X11_sizeOfFarthest : yX11_sizeOfFarthest.cls = RX11 ∧ yX11_sizeOfFarthest.cls ≠ "java/lang/invoke/MethodHandle" ∧ yX11_sizeOfFarthest.cls ≠ "java/lang/invoke/VarHandle" ∧ (parseMethodDescriptor yX11_sizeOfFarthest.desc).map (fun d => d.parameters.length) = some 2 := by decide +kernel
theorem ydV_X11_stageChanged : yX11_stageChanged.cls = RX11 ∧ yX11_stageChanged.cls ≠ "java/lang/invoke/MethodHandle" ∧ yX11_stageChanged.cls ≠ "java/lang/invoke/VarHandle" ∧ (parseMethodDescriptor yX11_stageChanged.desc).map (fun d => d.parameters.length) = some 0 := by decide +kernel
theorem ydV_X11_startChanged : yX11_startChanged.cls = RX11 ∧ yX11_startChanged.cls ≠ "java/lang/invoke/MethodHandle" ∧ yX11_startChanged.cls ≠ "java/lang/invoke/VarHandle" ∧ (parseMethodDescriptor yX11_startChanged.desc).map (fun d => d.parameters.length) = some 0 := by decide +kernel
theorem ydV_X11_sumOfFar : yX11_sumOfFar.cls = RX11 ∧ yX11_sumOfFar.cls ≠ "java/lang/invoke/MethodHandle" ∧ yX11_sumOfFar.cls ≠ "java/lang/invoke/VarHandle" ∧ (parseMethodDescriptor yX11_sumOfFar.desc).map (fun d => d.parameters.length) = some 2 := by decide +kernel
theorem ydV_X11_tapeFour : yX11_tapeFour.cls = RX11 ∧ yX11_tapeFour.cls ≠ "java/lang/invoke/MethodHandle" ∧ yX11_tapeFour.cls ≠ "java/lang/invoke/VarHandle" ∧ (parseMethodDescriptor yX11_tapeFour.desc).map (fun d => d.parameters.length) = some 1 := by decide +kernel
theorem ydV_X11_treeOfNow : yX11_treeOfNow.cls = RX11 ∧ yX11_treeOfNow.cls ≠ "java/lang/invoke/MethodHandle" ∧ yX11_treeOfNow.cls ≠ "java/lang/invoke/VarHandle" ∧ (parseMethodDescriptor yX11_treeOfNow.desc).map (fun d => d.parameters.length) = some 0 := by decide +kernel
theorem ydV_X1_forget : yX1_forget.cls = RX1 ∧ yX1_forget.cls ≠ "java/lang/invoke/MethodHandle" ∧ yX1_forget.cls ≠ "java/lang/invoke/VarHandle" ∧ (parseMethodDescriptor yX1_forget.desc).map (fun d => d.parameters.length) = some 0 := by decide +kernel
theorem ydV_X1_ofPair : yX1_ofPair.cls = RX1 ∧ yX1_ofPair.cls ≠ "java/lang/invoke/MethodHandle" ∧ yX1_ofPair.cls ≠ "java/lang/invoke/VarHandle" ∧ (parseMethodDescriptor yX1_ofPair.desc).map (fun d => d.parameters.length) = some 2 := by decide +kernel
theorem ydV_X1_ofPlace : yX1_ofPlace.cls = RX1 ∧ yX1_ofPlace.cls ≠ "java/lang/invoke/MethodHandle" ∧ yX1_ofPlace.cls ≠ "java/lang/invoke/VarHandle" ∧ (parseMethodDescriptor yX1_ofPlace.desc).map (fun d => d.parameters.length) = some 2 := by decide +kernel
theorem ydV_X2_breakBar : yX2_breakBar.cls = RX2 ∧ yX2_breakBar.cls ≠ "java/lang/invoke/MethodHandle" ∧ yX2_breakBar.cls ≠ "java/lang/invoke/VarHandle" ∧ (parseMethodDescriptor yX2_breakBar.desc).map (fun d => d.parameters.length) = some 2 := by decide +kernel
theorem ydV_X2_fewestAgainst : yX2_fewestAgainst.cls = RX2 ∧ yX2_fewestAgainst.cls ≠ "java/lang/invoke/MethodHandle" ∧ yX2_fewestAgainst.cls ≠ "java/lang/invoke/VarHandle" ∧ (parseMethodDescriptor yX2_fewestAgainst.desc).map (fun d => d.parameters.length) = some 1 := by decide +kernel
theorem ydV_X2_firstLawful : yX2_firstLawful.cls = RX2 ∧ yX2_firstLawful.cls ≠ "java/lang/invoke/MethodHandle" ∧ yX2_firstLawful.cls ≠ "java/lang/invoke/VarHandle" ∧ (parseMethodDescriptor yX2_firstLawful.desc).map (fun d => d.parameters.length) = some 1 := by decide +kernel
theorem ydV_X2_fits : yX2_fits.cls = RX2 ∧ yX2_fits.cls ≠ "java/lang/invoke/MethodHandle" ∧ yX2_fits.cls ≠ "java/lang/invoke/VarHandle" ∧ (parseMethodDescriptor yX2_fits.desc).map (fun d => d.parameters.length) = some 2 := by decide +kernel
theorem ydV_X2_groupIn : yX2_groupIn.cls = RX2 ∧ yX2_groupIn.cls ≠ "java/lang/invoke/MethodHandle" ∧ yX2_groupIn.cls ≠ "java/lang/invoke/VarHandle" ∧ (parseMethodDescriptor yX2_groupIn.desc).map (fun d => d.parameters.length) = some 2 := by decide +kernel
theorem ydV_X2_listLawful : yX2_listLawful.cls = RX2 ∧ yX2_listLawful.cls ≠ "java/lang/invoke/MethodHandle" ∧ yX2_listLawful.cls ≠ "java/lang/invoke/VarHandle" ∧ (parseMethodDescriptor yX2_listLawful.desc).map (fun d => d.parameters.length) = some 0 := by decide +kernel
theorem ydV_X2_rankIn : yX2_rankIn.cls = RX2 ∧ yX2_rankIn.cls ≠ "java/lang/invoke/MethodHandle" ∧ yX2_rankIn.cls ≠ "java/lang/invoke/VarHandle" ∧ (parseMethodDescriptor yX2_rankIn.desc).map (fun d => d.parameters.length) = some 2 := by decide +kernel
theorem ydV_X2_renew : yX2_renew.cls = RX2 ∧ yX2_renew.cls ≠ "java/lang/invoke/MethodHandle" ∧ yX2_renew.cls ≠ "java/lang/invoke/VarHandle" ∧ (parseMethodDescriptor yX2_renew.desc).map (fun d => d.parameters.length) = some 0 := by decide +kernel
theorem ydV_X2_tellHeld : yX2_tellHeld.cls = RX2 ∧ yX2_tellHeld.cls ≠ "java/lang/invoke/MethodHandle" ∧ yX2_tellHeld.cls ≠ "java/lang/invoke/VarHandle" ∧ (parseMethodDescriptor yX2_tellHeld.desc).map (fun d => d.parameters.length) = some 1 := by decide +kernel
theorem ydV_X2_tellWithin : yX2_tellWithin.cls = RX2 ∧ yX2_tellWithin.cls ≠ "java/lang/invoke/MethodHandle" ∧ yX2_tellWithin.cls ≠ "java/lang/invoke/VarHandle" ∧ (parseMethodDescriptor yX2_tellWithin.desc).map (fun d => d.parameters.length) = some 0 := by decide +kernel
theorem ydV_X3_addAtMost : yX3_addAtMost.cls = RX3 ∧ yX3_addAtMost.cls ≠ "java/lang/invoke/MethodHandle" ∧ yX3_addAtMost.cls ≠ "java/lang/invoke/VarHandle" ∧ (parseMethodDescriptor yX3_addAtMost.desc).map (fun d => d.parameters.length) = some 2 := by decide +kernel
theorem ydV_X3_addBar : yX3_addBar.cls = RX3 ∧ yX3_addBar.cls ≠ "java/lang/invoke/MethodHandle" ∧ yX3_addBar.cls ≠ "java/lang/invoke/VarHandle" ∧ (parseMethodDescriptor yX3_addBar.desc).map (fun d => d.parameters.length) = some 2 := by decide +kernel
theorem ydV_X3_addFixed : yX3_addFixed.cls = RX3 ∧ yX3_addFixed.cls ≠ "java/lang/invoke/MethodHandle" ∧ yX3_addFixed.cls ≠ "java/lang/invoke/VarHandle" ∧ (parseMethodDescriptor yX3_addFixed.desc).map (fun d => d.parameters.length) = some 2 := by decide +kernel
theorem ydV_X3_addMark : yX3_addMark.cls = RX3 ∧ yX3_addMark.cls ≠ "java/lang/invoke/MethodHandle" ∧ yX3_addMark.cls ≠ "java/lang/invoke/VarHandle" ∧ (parseMethodDescriptor yX3_addMark.desc).map (fun d => d.parameters.length) = some 1 := by decide +kernel
theorem ydV_X3_addNever : yX3_addNever.cls = RX3 ∧ yX3_addNever.cls ≠ "java/lang/invoke/MethodHandle" ∧ yX3_addNever.cls ≠ "java/lang/invoke/VarHandle" ∧ (parseMethodDescriptor yX3_addNever.desc).map (fun d => d.parameters.length) = some 2 := by decide +kernel
theorem ydV_X3_addTeam : yX3_addTeam.cls = RX3 ∧ yX3_addTeam.cls ≠ "java/lang/invoke/MethodHandle" ∧ yX3_addTeam.cls ≠ "java/lang/invoke/VarHandle" ∧ (parseMethodDescriptor yX3_addTeam.desc).map (fun d => d.parameters.length) = some 1 := by decide +kernel
theorem ydV_X3_forget : yX3_forget.cls = RX3 ∧ yX3_forget.cls ≠ "java/lang/invoke/MethodHandle" ∧ yX3_forget.cls ≠ "java/lang/invoke/VarHandle" ∧ (parseMethodDescriptor yX3_forget.desc).map (fun d => d.parameters.length) = some 0 := by decide +kernel
theorem ydV_X3_isGroupNamed : yX3_isGroupNamed.cls = RX3 ∧ yX3_isGroupNamed.cls ≠ "java/lang/invoke/MethodHandle" ∧ yX3_isGroupNamed.cls ≠ "java/lang/invoke/VarHandle" ∧ (parseMethodDescriptor yX3_isGroupNamed.desc).map (fun d => d.parameters.length) = some 1 := by decide +kernel
theorem ydV_X3_markNamed : yX3_markNamed.cls = RX3 ∧ yX3_markNamed.cls ≠ "java/lang/invoke/MethodHandle" ∧ yX3_markNamed.cls ≠ "java/lang/invoke/VarHandle" ∧ (parseMethodDescriptor yX3_markNamed.desc).map (fun d => d.parameters.length) = some 1 := by decide +kernel
theorem ydV_X3_nextPotAfter : yX3_nextPotAfter.cls = RX3 ∧ yX3_nextPotAfter.cls ≠ "java/lang/invoke/MethodHandle" ∧ yX3_nextPotAfter.cls ≠ "java/lang/invoke/VarHandle" ∧ (parseMethodDescriptor yX3_nextPotAfter.desc).map (fun d => d.parameters.length) = some 1 := by decide +kernel
theorem ydV_X3_placeOf : yX3_placeOf.cls = RX3 ∧ yX3_placeOf.cls ≠ "java/lang/invoke/MethodHandle" ∧ yX3_placeOf.cls ≠ "java/lang/invoke/VarHandle" ∧ (parseMethodDescriptor yX3_placeOf.desc).map (fun d => d.parameters.length) = some 1 := by decide +kernel
theorem ydV_X3_potOf : yX3_potOf.cls = RX3 ∧ yX3_potOf.cls ≠ "java/lang/invoke/MethodHandle" ∧ yX3_potOf.cls ≠ "java/lang/invoke/VarHandle" ∧ (parseMethodDescriptor yX3_potOf.desc).map (fun d => d.parameters.length) = some 1 := by decide +kernel
theorem ydV_X3_take : yX3_take.cls = RX3 ∧ yX3_take.cls ≠ "java/lang/invoke/MethodHandle" ∧ yX3_take.cls ≠ "java/lang/invoke/VarHandle" ∧ (parseMethodDescriptor yX3_take.desc).map (fun d => d.parameters.length) = some 1 := by decide +kernel
theorem ydV_X3_teamNamed : yX3_teamNamed.cls = RX3 ∧ yX3_teamNamed.cls ≠ "java/lang/invoke/MethodHandle" ∧ yX3_teamNamed.cls ≠ "java/lang/invoke/VarHandle" ∧ (parseMethodDescriptor yX3_teamNamed.desc).map (fun d => d.parameters.length) = some 1 := by decide +kernel
theorem ydV_X3_teamsMarked : yX3_teamsMarked.cls = RX3 ∧ yX3_teamsMarked.cls ≠ "java/lang/invoke/MethodHandle" ∧ yX3_teamsMarked.cls ≠ "java/lang/invoke/VarHandle" ∧ (parseMethodDescriptor yX3_teamsMarked.desc).map (fun d => d.parameters.length) = some 1 := by decide +kernel
theorem ydV_X4_addRow : yX4_addRow.cls = RX4 ∧ yX4_addRow.cls ≠ "java/lang/invoke/MethodHandle" ∧ yX4_addRow.cls ≠ "java/lang/invoke/VarHandle" ∧ (parseMethodDescriptor yX4_addRow.desc).map (fun d => d.parameters.length) = some 0 := by decide +kernel
theorem ydV_X4_firstOpen : yX4_firstOpen.cls = RX4 ∧ yX4_firstOpen.cls ≠ "java/lang/invoke/MethodHandle" ∧ yX4_firstOpen.cls ≠ "java/lang/invoke/VarHandle" ∧ (parseMethodDescriptor yX4_firstOpen.desc).map (fun d => d.parameters.length) = some 3 := by decide +kernel
theorem ydV_X4_groupAt : yX4_groupAt.cls = RX4 ∧ yX4_groupAt.cls ≠ "java/lang/invoke/MethodHandle" ∧ yX4_groupAt.cls ≠ "java/lang/invoke/VarHandle" ∧ (parseMethodDescriptor yX4_groupAt.desc).map (fun d => d.parameters.length) = some 2 := by decide +kernel
theorem ydV_X4_groupWith : yX4_groupWith.cls = RX4 ∧ yX4_groupWith.cls ≠ "java/lang/invoke/MethodHandle" ∧ yX4_groupWith.cls ≠ "java/lang/invoke/VarHandle" ∧ (parseMethodDescriptor yX4_groupWith.desc).map (fun d => d.parameters.length) = some 2 := by decide +kernel
theorem ydV_X4_rankWithSwapped : yX4_rankWithSwapped.cls = RX4 ∧ yX4_rankWithSwapped.cls ≠ "java/lang/invoke/MethodHandle" ∧ yX4_rankWithSwapped.cls ≠ "java/lang/invoke/VarHandle" ∧ (parseMethodDescriptor yX4_rankWithSwapped.desc).map (fun d => d.parameters.length) = some 3 := by decide +kernel
theorem ydV_X4_set : yX4_set.cls = RX4 ∧ yX4_set.cls ≠ "java/lang/invoke/MethodHandle" ∧ yX4_set.cls ≠ "java/lang/invoke/VarHandle" ∧ (parseMethodDescriptor yX4_set.desc).map (fun d => d.parameters.length) = some 1 := by decide +kernel
theorem ydV_X4_setSwaps : yX4_setSwaps.cls = RX4 ∧ yX4_setSwaps.cls ≠ "java/lang/invoke/MethodHandle" ∧ yX4_setSwaps.cls ≠ "java/lang/invoke/VarHandle" ∧ (parseMethodDescriptor yX4_setSwaps.desc).map (fun d => d.parameters.length) = some 1 := by decide +kernel
theorem ydV_X5_fail : yX5_fail.cls = RX5 ∧ yX5_fail.cls ≠ "java/lang/invoke/MethodHandle" ∧ yX5_fail.cls ≠ "java/lang/invoke/VarHandle" ∧ (parseMethodDescriptor yX5_fail.desc).map (fun d => d.parameters.length) = some 1 := by decide +kernel
theorem ydV_X5_isName : yX5_isName.cls = RX5 ∧ yX5_isName.cls ≠ "java/lang/invoke/MethodHandle" ∧ yX5_isName.cls ≠ "java/lang/invoke/VarHandle" ∧ (parseMethodDescriptor yX5_isName.desc).map (fun d => d.parameters.length) = some 0 := by decide +kernel
theorem ydV_X5_isNumber : yX5_isNumber.cls = RX5 ∧ yX5_isNumber.cls ≠ "java/lang/invoke/MethodHandle" ∧ yX5_isNumber.cls ≠ "java/lang/invoke/VarHandle" ∧ (parseMethodDescriptor yX5_isNumber.desc).map (fun d => d.parameters.length) = some 2 := by decide +kernel
theorem ydV_X5_isRoomForBar : yX5_isRoomForBar.cls = RX5 ∧ yX5_isRoomForBar.cls ≠ "java/lang/invoke/MethodHandle" ∧ yX5_isRoomForBar.cls ≠ "java/lang/invoke/VarHandle" ∧ (parseMethodDescriptor yX5_isRoomForBar.desc).map (fun d => d.parameters.length) = some 0 := by decide +kernel
theorem ydV_X5_readApart : yX5_readApart.cls = RX5 ∧ yX5_readApart.cls ≠ "java/lang/invoke/MethodHandle" ∧ yX5_readApart.cls ≠ "java/lang/invoke/VarHandle" ∧ (parseMethodDescriptor yX5_readApart.desc).map (fun d => d.parameters.length) = some 0 := by decide +kernel
theorem ydV_X5_readAtMost : yX5_readAtMost.cls = RX5 ∧ yX5_readAtMost.cls ≠ "java/lang/invoke/MethodHandle" ∧ yX5_readAtMost.cls ≠ "java/lang/invoke/VarHandle" ∧ (parseMethodDescriptor yX5_readAtMost.desc).map (fun d => d.parameters.length) = some 0 := by decide +kernel
theorem ydV_X5_readGroups : yX5_readGroups.cls = RX5 ∧ yX5_readGroups.cls ≠ "java/lang/invoke/MethodHandle" ∧ yX5_readGroups.cls ≠ "java/lang/invoke/VarHandle" ∧ (parseMethodDescriptor yX5_readGroups.desc).map (fun d => d.parameters.length) = some 0 := by decide +kernel
theorem ydV_X5_readHeld : yX5_readHeld.cls = RX5 ∧ yX5_readHeld.cls ≠ "java/lang/invoke/MethodHandle" ∧ yX5_readHeld.cls ≠ "java/lang/invoke/VarHandle" ∧ (parseMethodDescriptor yX5_readHeld.desc).map (fun d => d.parameters.length) = some 1 := by decide +kernel
theorem ydV_X5_readLine : yX5_readLine.cls = RX5 ∧ yX5_readLine.cls ≠ "java/lang/invoke/MethodHandle" ∧ yX5_readLine.cls ≠ "java/lang/invoke/VarHandle" ∧ (parseMethodDescriptor yX5_readLine.desc).map (fun d => d.parameters.length) = some 1 := by decide +kernel
theorem ydV_X5_readLines : yX5_readLines.cls = RX5 ∧ yX5_readLines.cls ≠ "java/lang/invoke/MethodHandle" ∧ yX5_readLines.cls ≠ "java/lang/invoke/VarHandle" ∧ (parseMethodDescriptor yX5_readLines.desc).map (fun d => d.parameters.length) = some 1 := by decide +kernel
theorem ydV_X5_readMark : yX5_readMark.cls = RX5 ∧ yX5_readMark.cls ≠ "java/lang/invoke/MethodHandle" ∧ yX5_readMark.cls ≠ "java/lang/invoke/VarHandle" ∧ (parseMethodDescriptor yX5_readMark.desc).map (fun d => d.parameters.length) = some 0 := by decide +kernel
theorem ydV_X5_readPot : yX5_readPot.cls = RX5 ∧ yX5_readPot.cls ≠ "java/lang/invoke/MethodHandle" ∧ yX5_readPot.cls ≠ "java/lang/invoke/VarHandle" ∧ (parseMethodDescriptor yX5_readPot.desc).map (fun d => d.parameters.length) = some 0 := by decide +kernel
theorem ydV_X5_readStop : yX5_readStop.cls = RX5 ∧ yX5_readStop.cls ≠ "java/lang/invoke/MethodHandle" ∧ yX5_readStop.cls ≠ "java/lang/invoke/VarHandle" ∧ (parseMethodDescriptor yX5_readStop.desc).map (fun d => d.parameters.length) = some 0 := by decide +kernel
theorem ydV_X5_readTeam : yX5_readTeam.cls = RX5 ∧ yX5_readTeam.cls ≠ "java/lang/invoke/MethodHandle" ∧ yX5_readTeam.cls ≠ "java/lang/invoke/VarHandle" ∧ (parseMethodDescriptor yX5_readTeam.desc).map (fun d => d.parameters.length) = some 0 := by decide +kernel
theorem ydV_X5_readUpToStop : yX5_readUpToStop.cls = RX5 ∧ yX5_readUpToStop.cls ≠ "java/lang/invoke/MethodHandle" ∧ yX5_readUpToStop.cls ≠ "java/lang/invoke/VarHandle" ∧ (parseMethodDescriptor yX5_readUpToStop.desc).map (fun d => d.parameters.length) = some 1 := by decide +kernel
theorem ydV_X5_step : yX5_step.cls = RX5 ∧ yX5_step.cls ≠ "java/lang/invoke/MethodHandle" ∧ yX5_step.cls ≠ "java/lang/invoke/VarHandle" ∧ (parseMethodDescriptor yX5_step.desc).map (fun d => d.parameters.length) = some 0 := by decide +kernel
theorem ydV_X5_stepNumber : yX5_stepNumber.cls = RX5 ∧ yX5_stepNumber.cls ≠ "java/lang/invoke/MethodHandle" ∧ yX5_stepNumber.cls ≠ "java/lang/invoke/VarHandle" ∧ (parseMethodDescriptor yX5_stepNumber.desc).map (fun d => d.parameters.length) = some 0 := by decide +kernel
theorem ydV_X5_stepWord : yX5_stepWord.cls = RX5 ∧ yX5_stepWord.cls ≠ "java/lang/invoke/MethodHandle" ∧ yX5_stepWord.cls ≠ "java/lang/invoke/VarHandle" ∧ (parseMethodDescriptor yX5_stepWord.desc).map (fun d => d.parameters.length) = some 0 := by decide +kernel
theorem ydV_X6_addAhead : yX6_addAhead.cls = RX6 ∧ yX6_addAhead.cls ≠ "java/lang/invoke/MethodHandle" ∧ yX6_addAhead.cls ≠ "java/lang/invoke/VarHandle" ∧ (parseMethodDescriptor yX6_addAhead.desc).map (fun d => d.parameters.length) = some 4 := by decide +kernel
theorem ydV_X6_addLast : yX6_addLast.cls = RX6 ∧ yX6_addLast.cls ≠ "java/lang/invoke/MethodHandle" ∧ yX6_addLast.cls ≠ "java/lang/invoke/VarHandle" ∧ (parseMethodDescriptor yX6_addLast.desc).map (fun d => d.parameters.length) = some 4 := by decide +kernel
theorem ydV_X6_beginAtStage : yX6_beginAtStage.cls = RX6 ∧ yX6_beginAtStage.cls ≠ "java/lang/invoke/MethodHandle" ∧ yX6_beginAtStage.cls ≠ "java/lang/invoke/VarHandle" ∧ (parseMethodDescriptor yX6_beginAtStage.desc).map (fun d => d.parameters.length) = some 1 := by decide +kernel
theorem ydV_X6_beginAtStart : yX6_beginAtStart.cls = RX6 ∧ yX6_beginAtStart.cls ≠ "java/lang/invoke/MethodHandle" ∧ yX6_beginAtStart.cls ≠ "java/lang/invoke/VarHandle" ∧ (parseMethodDescriptor yX6_beginAtStart.desc).map (fun d => d.parameters.length) = some 2 := by decide +kernel
theorem ydV_X6_reckon : yX6_reckon.cls = RX6 ∧ yX6_reckon.cls ≠ "java/lang/invoke/MethodHandle" ∧ yX6_reckon.cls ≠ "java/lang/invoke/VarHandle" ∧ (parseMethodDescriptor yX6_reckon.desc).map (fun d => d.parameters.length) = some 2 := by decide +kernel
theorem ydV_X6_walk : yX6_walk.cls = RX6 ∧ yX6_walk.cls ≠ "java/lang/invoke/MethodHandle" ∧ yX6_walk.cls ≠ "java/lang/invoke/VarHandle" ∧ (parseMethodDescriptor yX6_walk.desc).map (fun d => d.parameters.length) = some 5 := by decide +kernel
theorem ydV_X7_begin : yX7_begin.cls = RX7 ∧ yX7_begin.cls ≠ "java/lang/invoke/MethodHandle" ∧ yX7_begin.cls ≠ "java/lang/invoke/VarHandle" ∧ (parseMethodDescriptor yX7_begin.desc).map (fun d => d.parameters.length) = some 2 := by decide +kernel
theorem ydV_X7_field : yX7_field.cls = RX7 ∧ yX7_field.cls ≠ "java/lang/invoke/MethodHandle" ∧ yX7_field.cls ≠ "java/lang/invoke/VarHandle" ∧ (parseMethodDescriptor yX7_field.desc).map (fun d => d.parameters.length) = some 4 := by decide +kernel
theorem ydV_X7_fieldBall : yX7_fieldBall.cls = RX7 ∧ yX7_fieldBall.cls ≠ "java/lang/invoke/MethodHandle" ∧ yX7_fieldBall.cls ≠ "java/lang/invoke/VarHandle" ∧ (parseMethodDescriptor yX7_fieldBall.desc).map (fun d => d.parameters.length) = some 5 := by decide +kernel
theorem ydV_X7_fillRows : yX7_fillRows.cls = RX7 ∧ yX7_fillRows.cls ≠ "java/lang/invoke/MethodHandle" ∧ yX7_fillRows.cls ≠ "java/lang/invoke/VarHandle" ∧ (parseMethodDescriptor yX7_fillRows.desc).map (fun d => d.parameters.length) = some 2 := by decide +kernel
theorem ydV_X7_groupsOpen : yX7_groupsOpen.cls = RX7 ∧ yX7_groupsOpen.cls ≠ "java/lang/invoke/MethodHandle" ∧ yX7_groupsOpen.cls ≠ "java/lang/invoke/VarHandle" ∧ (parseMethodDescriptor yX7_groupsOpen.desc).map (fun d => d.parameters.length) = some 2 := by decide +kernel
theorem ydV_X7_isKept : yX7_isKept.cls = RX7 ∧ yX7_isKept.cls ≠ "java/lang/invoke/MethodHandle" ∧ yX7_isKept.cls ≠ "java/lang/invoke/VarHandle" ∧ (parseMethodDescriptor yX7_isKept.desc).map (fun d => d.parameters.length) = some 2 := by decide +kernel
theorem ydV_X7_keepRows : yX7_keepRows.cls = RX7 ∧ yX7_keepRows.cls ≠ "java/lang/invoke/MethodHandle" ∧ yX7_keepRows.cls ≠ "java/lang/invoke/VarHandle" ∧ (parseMethodDescriptor yX7_keepRows.desc).map (fun d => d.parameters.length) = some 2 := by decide +kernel
theorem ydV_X7_skip : yX7_skip.cls = RX7 ∧ yX7_skip.cls ≠ "java/lang/invoke/MethodHandle" ∧ yX7_skip.cls ≠ "java/lang/invoke/VarHandle" ∧ (parseMethodDescriptor yX7_skip.desc).map (fun d => d.parameters.length) = some 3 := by decide +kernel
theorem ydV_X7_slotOf : yX7_slotOf.cls = RX7 ∧ yX7_slotOf.cls ≠ "java/lang/invoke/MethodHandle" ∧ yX7_slotOf.cls ≠ "java/lang/invoke/VarHandle" ∧ (parseMethodDescriptor yX7_slotOf.desc).map (fun d => d.parameters.length) = some 2 := by decide +kernel
theorem ydV_X8_allow : yX8_allow.cls = RX8 ∧ yX8_allow.cls ≠ "java/lang/invoke/MethodHandle" ∧ yX8_allow.cls ≠ "java/lang/invoke/VarHandle" ∧ (parseMethodDescriptor yX8_allow.desc).map (fun d => d.parameters.length) = some 2 := by decide +kernel
theorem ydV_X8_begun : yX8_begun.cls = RX8 ∧ yX8_begun.cls ≠ "java/lang/invoke/MethodHandle" ∧ yX8_begun.cls ≠ "java/lang/invoke/VarHandle" ∧ (parseMethodDescriptor yX8_begun.desc).map (fun d => d.parameters.length) = some 0 := by decide +kernel
theorem ydV_X8_empty : yX8_empty.cls = RX8 ∧ yX8_empty.cls ≠ "java/lang/invoke/MethodHandle" ∧ yX8_empty.cls ≠ "java/lang/invoke/VarHandle" ∧ (parseMethodDescriptor yX8_empty.desc).map (fun d => d.parameters.length) = some 0 := by decide +kernel
theorem ydV_X8_fullPots : yX8_fullPots.cls = RX8 ∧ yX8_fullPots.cls ≠ "java/lang/invoke/MethodHandle" ∧ yX8_fullPots.cls ≠ "java/lang/invoke/VarHandle" ∧ (parseMethodDescriptor yX8_fullPots.desc).map (fun d => d.parameters.length) = some 0 := by decide +kernel
theorem ydV_X8_latest : yX8_latest.cls = RX8 ∧ yX8_latest.cls ≠ "java/lang/invoke/MethodHandle" ∧ yX8_latest.cls ≠ "java/lang/invoke/VarHandle" ∧ (parseMethodDescriptor yX8_latest.desc).map (fun d => d.parameters.length) = some 0 := by decide +kernel
theorem ydV_X8_placesLeft : yX8_placesLeft.cls = RX8 ∧ yX8_placesLeft.cls ≠ "java/lang/invoke/MethodHandle" ∧ yX8_placesLeft.cls ≠ "java/lang/invoke/VarHandle" ∧ (parseMethodDescriptor yX8_placesLeft.desc).map (fun d => d.parameters.length) = some 1 := by decide +kernel
theorem ydV_X8_potInTurn : yX8_potInTurn.cls = RX8 ∧ yX8_potInTurn.cls ≠ "java/lang/invoke/MethodHandle" ∧ yX8_potInTurn.cls ≠ "java/lang/invoke/VarHandle" ∧ (parseMethodDescriptor yX8_potInTurn.desc).map (fun d => d.parameters.length) = some 0 := by decide +kernel
theorem ydV_X8_prefix : yX8_prefix.cls = RX8 ∧ yX8_prefix.cls ≠ "java/lang/invoke/MethodHandle" ∧ yX8_prefix.cls ≠ "java/lang/invoke/VarHandle" ∧ (parseMethodDescriptor yX8_prefix.desc).map (fun d => d.parameters.length) = some 0 := by decide +kernel
theorem ydV_X8_put : yX8_put.cls = RX8 ∧ yX8_put.cls ≠ "java/lang/invoke/MethodHandle" ∧ yX8_put.cls ≠ "java/lang/invoke/VarHandle" ∧ (parseMethodDescriptor yX8_put.desc).map (fun d => d.parameters.length) = some 2 := by decide +kernel
theorem ydV_X8_putInTurn : yX8_putInTurn.cls = RX8 ∧ yX8_putInTurn.cls ≠ "java/lang/invoke/MethodHandle" ∧ yX8_putInTurn.cls ≠ "java/lang/invoke/VarHandle" ∧ (parseMethodDescriptor yX8_putInTurn.desc).map (fun d => d.parameters.length) = some 0 := by decide +kernel
theorem ydV_X8_rankAtLevel : yX8_rankAtLevel.cls = RX8 ∧ yX8_rankAtLevel.cls ≠ "java/lang/invoke/MethodHandle" ∧ yX8_rankAtLevel.cls ≠ "java/lang/invoke/VarHandle" ∧ (parseMethodDescriptor yX8_rankAtLevel.desc).map (fun d => d.parameters.length) = some 1 := by decide +kernel
theorem ydV_X8_ranksIf : yX8_ranksIf.cls = RX8 ∧ yX8_ranksIf.cls ≠ "java/lang/invoke/MethodHandle" ∧ yX8_ranksIf.cls ≠ "java/lang/invoke/VarHandle" ∧ (parseMethodDescriptor yX8_ranksIf.desc).map (fun d => d.parameters.length) = some 3 := by decide +kernel
theorem ydV_X8_ranksLeft : yX8_ranksLeft.cls = RX8 ∧ yX8_ranksLeft.cls ≠ "java/lang/invoke/MethodHandle" ∧ yX8_ranksLeft.cls ≠ "java/lang/invoke/VarHandle" ∧ (parseMethodDescriptor yX8_ranksLeft.desc).map (fun d => d.parameters.length) = some 1 := by decide +kernel
theorem ydV_X8_reason : yX8_reason.cls = RX8 ∧ yX8_reason.cls ≠ "java/lang/invoke/MethodHandle" ∧ yX8_reason.cls ≠ "java/lang/invoke/VarHandle" ∧ (parseMethodDescriptor yX8_reason.desc).map (fun d => d.parameters.length) = some 1 := by decide +kernel
theorem ydV_X8_rowsLeft : yX8_rowsLeft.cls = RX8 ∧ yX8_rowsLeft.cls ≠ "java/lang/invoke/MethodHandle" ∧ yX8_rowsLeft.cls ≠ "java/lang/invoke/VarHandle" ∧ (parseMethodDescriptor yX8_rowsLeft.desc).map (fun d => d.parameters.length) = some 1 := by decide +kernel
theorem ydV_X8_takeBack : yX8_takeBack.cls = RX8 ∧ yX8_takeBack.cls ≠ "java/lang/invoke/MethodHandle" ∧ yX8_takeBack.cls ≠ "java/lang/invoke/VarHandle" ∧ (parseMethodDescriptor yX8_takeBack.desc).map (fun d => d.parameters.length) = some 0 := by decide +kernel
theorem ydV_X9_allRows : yX9_allRows.cls = RX9 ∧ yX9_allRows.cls ≠ "java/lang/invoke/MethodHandle" ∧ yX9_allRows.cls ≠ "java/lang/invoke/VarHandle" ∧ (parseMethodDescriptor yX9_allRows.desc).map (fun d => d.parameters.length) = some 1 := by decide +kernel
theorem ydV_X9_clearRows : yX9_clearRows.cls = RX9 ∧ yX9_clearRows.cls ≠ "java/lang/invoke/MethodHandle" ∧ yX9_clearRows.cls ≠ "java/lang/invoke/VarHandle" ∧ (parseMethodDescriptor yX9_clearRows.desc).map (fun d => d.parameters.length) = some 0 := by decide +kernel
theorem ydV_X9_findParts : yX9_findParts.cls = RX9 ∧ yX9_findParts.cls ≠ "java/lang/invoke/MethodHandle" ∧ yX9_findParts.cls ≠ "java/lang/invoke/VarHandle" ∧ (parseMethodDescriptor yX9_findParts.desc).map (fun d => d.parameters.length) = some 0 := by decide +kernel
theorem ydV_X9_forget : yX9_forget.cls = RX9 ∧ yX9_forget.cls ≠ "java/lang/invoke/MethodHandle" ∧ yX9_forget.cls ≠ "java/lang/invoke/VarHandle" ∧ (parseMethodDescriptor yX9_forget.desc).map (fun d => d.parameters.length) = some 0 := by decide +kernel
theorem ydV_X9_howManyParts : yX9_howManyParts.cls = RX9 ∧ yX9_howManyParts.cls ≠ "java/lang/invoke/MethodHandle" ∧ yX9_howManyParts.cls ≠ "java/lang/invoke/VarHandle" ∧ (parseMethodDescriptor yX9_howManyParts.desc).map (fun d => d.parameters.length) = some 0 := by decide +kernel
theorem ydV_X9_meet : yX9_meet.cls = RX9 ∧ yX9_meet.cls ≠ "java/lang/invoke/MethodHandle" ∧ yX9_meet.cls ≠ "java/lang/invoke/VarHandle" ∧ (parseMethodDescriptor yX9_meet.desc).map (fun d => d.parameters.length) = some 1 := by decide +kernel
theorem ydV_X9_meetSwapped : yX9_meetSwapped.cls = RX9 ∧ yX9_meetSwapped.cls ≠ "java/lang/invoke/MethodHandle" ∧ yX9_meetSwapped.cls ≠ "java/lang/invoke/VarHandle" ∧ (parseMethodDescriptor yX9_meetSwapped.desc).map (fun d => d.parameters.length) = some 1 := by decide +kernel
theorem ydV_X9_pass : yX9_pass.cls = RX9 ∧ yX9_pass.cls ≠ "java/lang/invoke/MethodHandle" ∧ yX9_pass.cls ≠ "java/lang/invoke/VarHandle" ∧ (parseMethodDescriptor yX9_pass.desc).map (fun d => d.parameters.length) = some 2 := by decide +kernel
theorem ydV_X9_rowsTo : yX9_rowsTo.cls = RX9 ∧ yX9_rowsTo.cls ≠ "java/lang/invoke/MethodHandle" ∧ yX9_rowsTo.cls ≠ "java/lang/invoke/VarHandle" ∧ (parseMethodDescriptor yX9_rowsTo.desc).map (fun d => d.parameters.length) = some 2 := by decide +kernel
theorem ydV_X9_sizeOfFirstPart : yX9_sizeOfFirstPart.cls = RX9 ∧ yX9_sizeOfFirstPart.cls ≠ "java/lang/invoke/MethodHandle" ∧ yX9_sizeOfFirstPart.cls ≠ "java/lang/invoke/VarHandle" ∧ (parseMethodDescriptor yX9_sizeOfFirstPart.desc).map (fun d => d.parameters.length) = some 0 := by decide +kernel
theorem ydV_X9_sizeOfGreatestPart : yX9_sizeOfGreatestPart.cls = RX9 ∧ yX9_sizeOfGreatestPart.cls ≠ "java/lang/invoke/MethodHandle" ∧ yX9_sizeOfGreatestPart.cls ≠ "java/lang/invoke/VarHandle" ∧ (parseMethodDescriptor yX9_sizeOfGreatestPart.desc).map (fun d => d.parameters.length) = some 0 := by decide +kernel
theorem ydV_X9_sizeOfPart : yX9_sizeOfPart.cls = RX9 ∧ yX9_sizeOfPart.cls ≠ "java/lang/invoke/MethodHandle" ∧ yX9_sizeOfPart.cls ≠ "java/lang/invoke/VarHandle" ∧ (parseMethodDescriptor yX9_sizeOfPart.desc).map (fun d => d.parameters.length) = some 1 := by decide +kernel
theorem ydV_X9_swapOnce : yX9_swapOnce.cls = RX9 ∧ yX9_swapOnce.cls ≠ "java/lang/invoke/MethodHandle" ∧ yX9_swapOnce.cls ≠ "java/lang/invoke/VarHandle" ∧ (parseMethodDescriptor yX9_swapOnce.desc).map (fun d => d.parameters.length) = some 0 := by decide +kernel
theorem ydV_X9_swapTimes : yX9_swapTimes.cls = RX9 ∧ yX9_swapTimes.cls ≠ "java/lang/invoke/MethodHandle" ∧ yX9_swapTimes.cls ≠ "java/lang/invoke/VarHandle" ∧ (parseMethodDescriptor yX9_swapTimes.desc).map (fun d => d.parameters.length) = some 1 := by decide +kernel
theorem ydV_X9_uneven : yX9_uneven.cls = RX9 ∧ yX9_uneven.cls ≠ "java/lang/invoke/MethodHandle" ∧ yX9_uneven.cls ≠ "java/lang/invoke/VarHandle" ∧ (parseMethodDescriptor yX9_uneven.desc).map (fun d => d.parameters.length) = some 1 := by decide +kernel
theorem gJ7_fill_bad5a_J7_rangeCheck_23922 : GoodIn wsJ7_fill_bad5a (va_wsS RJ7 13 yJ7_rangeCheck_23922 wsJ7_rangeCheck_23922) := goodIn_app (gi_cons mw_J7_fill_bad5a__1 gw_methodLink (gi_cons mw_J7_fill_bad5a__2 gw_static (gi_cons mw_J7_fill_bad5a__3 gw_initialized gi_nil))) (gi_cons mw_J7_fill_bad5a__4 gw_code (goodIn_app (gi_cons mw_J7_fill_bad5a__5 gw_classLink (gi_cons mw_J7_fill_bad5a__6 gw_instantiable (gi_cons mw_J7_fill_bad5a__7 gw_initialized gi_nil))) (goodIn_sub iw_J7_fill_bad5a__Jx00060 gd_Jx00060)))
theorem gJ7_fill_fda19_J7_rangeCheck_23922 : GoodIn wsJ7_fill_fda19 (va_wsS RJ7 13 yJ7_rangeCheck_23922 wsJ7_rangeCheck_23922) := goodIn_app (gi_cons mw_J7_fill_fda19__1 gw_methodLink (gi_cons mw_J7_fill_fda19__2 gw_static (gi_cons mw_J7_fill_fda19__3 gw_initialized gi_nil))) (gi_cons mw_J7_fill_fda19__4 gw_code (goodIn_app (gi_cons mw_J7_fill_fda19__5 gw_classLink (gi_cons mw_J7_fill_fda19__6 gw_instantiable (gi_cons mw_J7_fill_fda19__7 gw_initialized gi_nil))) (goodIn_sub iw_J7_fill_fda19__Jx00060 gd_Jx00060)))
