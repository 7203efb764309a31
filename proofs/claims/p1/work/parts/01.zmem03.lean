theorem mw_X12_why__11 : (.fieldLink RX12 65 "BallPotsModel" "ballOf" "[I" : Cond) ∈ wsX12_why := List.mem_of_getElem? (i := 11) rfl
theorem mw_X12_why__12 : (.methodLink RX12 281 yX12_shut : Cond) ∈ wsX12_why := List.mem_of_getElem? (i := 12) rfl
theorem mw_X12_why__13 : (.instanceMethod yX12_shut : Cond) ∈ wsX12_why := List.mem_of_getElem? (i := 13) rfl
theorem mw_X12_why__14 : (.selects RX12 yX12_shut yX12_shut : Cond) ∈ wsX12_why := List.mem_of_getElem? (i := 14) rfl
theorem mw_X12_why__15 : (.code yX12_shut cX12_shut 5 (some .int) : Cond) ∈ wsX12_why := List.mem_of_getElem? (i := 15) rfl
theorem mw_X12_why__16 : (.fieldLink RX12 248 "BallPotsModel" "draws" "I" : Cond) ∈ wsX12_why := List.mem_of_getElem? (i := 16) rfl
theorem mw_X12_why__17 : (.fieldLink RX12 47 "BallPotsModel" "breaks" "[I" : Cond) ∈ wsX12_why := List.mem_of_getElem? (i := 17) rfl
theorem mw_X12_why__18 : (.fieldLink RX12 51 "BallPotsModel" "groupOf" "[B" : Cond) ∈ wsX12_why := List.mem_of_getElem? (i := 18) rfl
theorem mw_X12_why__19 : (.methodLink RX12 275 yX12_isAsPlaced : Cond) ∈ wsX12_why := List.mem_of_getElem? (i := 19) rfl
theorem mw_X12_why__20 : (.instanceMethod yX12_isAsPlaced : Cond) ∈ wsX12_why := List.mem_of_getElem? (i := 20) rfl
theorem mw_X12_why__21 : (.selects RX12 yX12_isAsPlaced yX12_isAsPlaced : Cond) ∈ wsX12_why := List.mem_of_getElem? (i := 21) rfl
theorem mw_X12_why__22 : (.code yX12_isAsPlaced cX12_isAsPlaced 4 (some .boolean) : Cond) ∈ wsX12_why := List.mem_of_getElem? (i := 22) rfl
theorem mw_X12_whyOf__1 : (.fieldLink RX12 234 "BallPotsModel" "out" "I" : Cond) ∈ wsX12_whyOf := List.mem_of_getElem? (i := 1) rfl
theorem mw_X12_without__1 : (.fieldLink RX12 132 "BallPotsModel" "thrown" "I" : Cond) ∈ wsX12_without := List.mem_of_getElem? (i := 1) rfl
theorem mw_X12_without__2 : (.fieldLink RX12 225 "BallPotsModel" "bars" "I" : Cond) ∈ wsX12_without := List.mem_of_getElem? (i := 2) rfl
theorem mw_X1_forget__1 : (.fieldLink RX1 9 "BallPots$Chances" "pairs" "[J" : Cond) ∈ wsX1_forget := List.mem_of_getElem? (i := 1) rfl
theorem mw_X1_forget__2 : (.fieldLink RX1 15 "BallPots$Chances" "places" "[J" : Cond) ∈ wsX1_forget := List.mem_of_getElem? (i := 2) rfl
theorem mw_X1_forget__3 : (.fieldLink RX1 24 "BallPots$Chances" "rows" "J" : Cond) ∈ wsX1_forget := List.mem_of_getElem? (i := 3) rfl
theorem mw_X1_forget__4 : (.methodLink RX1 18 yJ7_fill_d0a16 : Cond) ∈ wsX1_forget := List.mem_of_getElem? (i := 4) rfl
theorem mw_X1_forget__5 : (.static yJ7_fill_d0a16 : Cond) ∈ wsX1_forget := List.mem_of_getElem? (i := 5) rfl
theorem mw_X1_forget__6 : (.initialized RJ7 : Cond) ∈ wsX1_forget := List.mem_of_getElem? (i := 6) rfl
theorem mw_X1_forget__7 : (.code yJ7_fill_d0a16 cJ7_fill_d0a16 5 none : Cond) ∈ wsX1_forget := List.mem_of_getElem? (i := 7) rfl
theorem mw_X1_init__1 : (.methodLink RX1 3 objectInit : Cond) ∈ wsX1_init := List.mem_of_getElem? (i := 1) rfl
theorem mw_X1_init__2 : (.instanceMethod objectInit : Cond) ∈ wsX1_init := List.mem_of_getElem? (i := 2) rfl
theorem mw_X1_init__3 : (.code objectInit ⟨#[0xb1]⟩ 1 none : Cond) ∈ wsX1_init := List.mem_of_getElem? (i := 3) rfl
theorem mw_X1_init__4 : (.arrayClass .long : Cond) ∈ wsX1_init := List.mem_of_getElem? (i := 4) rfl
theorem mw_X1_init__5 : (.fieldLink RX1 9 "BallPots$Chances" "pairs" "[J" : Cond) ∈ wsX1_init := List.mem_of_getElem? (i := 5) rfl
theorem mw_X1_init__6 : (.fieldLink RX1 15 "BallPots$Chances" "places" "[J" : Cond) ∈ wsX1_init := List.mem_of_getElem? (i := 6) rfl
theorem mw_X2_init__1 : (.methodLink RX2 3 objectInit : Cond) ∈ wsX2_init := List.mem_of_getElem? (i := 1) rfl
theorem mw_X2_init__2 : (.instanceMethod objectInit : Cond) ∈ wsX2_init := List.mem_of_getElem? (i := 2) rfl
theorem mw_X2_init__3 : (.code objectInit ⟨#[0xb1]⟩ 1 none : Cond) ∈ wsX2_init := List.mem_of_getElem? (i := 3) rfl
theorem mw_X2_init__4 : (.arrayClass .int : Cond) ∈ wsX2_init := List.mem_of_getElem? (i := 4) rfl
theorem mw_X2_init__5 : (.fieldLink RX2 9 "BallPots$Draws" "step" "[I" : Cond) ∈ wsX2_init := List.mem_of_getElem? (i := 5) rfl
theorem mw_X2_init__6 : (.fieldLink RX2 15 "BallPots$Draws" "broken" "[I" : Cond) ∈ wsX2_init := List.mem_of_getElem? (i := 6) rfl
theorem mw_X2_init__7 : (.fieldLink RX2 18 "BallPots$Draws" "lawfulCodes" "[I" : Cond) ∈ wsX2_init := List.mem_of_getElem? (i := 7) rfl
theorem mw_X2_init__8 : (.fieldLink RX2 21 "BallPots$Draws" "within" "[I" : Cond) ∈ wsX2_init := List.mem_of_getElem? (i := 8) rfl
theorem mw_X2_init__9 : (.fieldLink RX2 24 "BallPots$Draws" "withinSome" "[I" : Cond) ∈ wsX2_init := List.mem_of_getElem? (i := 9) rfl
theorem mw_X2_init__10 : (.fieldLink RX2 27 "BallPots$Draws" "held" "[I" : Cond) ∈ wsX2_init := List.mem_of_getElem? (i := 10) rfl
theorem mw_X2_init__11 : (.fieldLink RX2 30 "BallPots$Draws" "plan" "LBallPots$Plan;" : Cond) ∈ wsX2_init := List.mem_of_getElem? (i := 11) rfl
theorem mw_X2_init__12 : (.fieldLink RX2 34 "BallPots$Draws" "ranks" "LBallPots$Ranks;" : Cond) ∈ wsX2_init := List.mem_of_getElem? (i := 12) rfl
theorem mw_X2_listLawful__1 : (.fieldLink RX2 92 "BallPots$Draws" "lawfulOnes" "I" : Cond) ∈ wsX2_listLawful := List.mem_of_getElem? (i := 1) rfl
theorem mw_X2_listLawful__2 : (.fieldLink RX2 38 "BallPots$Draws" "total" "I" : Cond) ∈ wsX2_listLawful := List.mem_of_getElem? (i := 2) rfl
theorem mw_X2_listLawful__3 : (.fieldLink RX2 15 "BallPots$Draws" "broken" "[I" : Cond) ∈ wsX2_listLawful := List.mem_of_getElem? (i := 3) rfl
theorem mw_X2_listLawful__4 : (.fieldLink RX2 18 "BallPots$Draws" "lawfulCodes" "[I" : Cond) ∈ wsX2_listLawful := List.mem_of_getElem? (i := 4) rfl
theorem mw_X2_renew__1 : (.fieldLink RX2 38 "BallPots$Draws" "total" "I" : Cond) ∈ wsX2_renew := rl_wsX2_renew_r1 _ (List.mem_of_getElem? (i := 0) rfl)
theorem mw_X2_renew__2 : (.fieldLink RX2 30 "BallPots$Draws" "plan" "LBallPots$Plan;" : Cond) ∈ wsX2_renew := rl_wsX2_renew_r1 _ (List.mem_of_getElem? (i := 1) rfl)
theorem mw_X2_renew__5 : (.fieldLink RX2 15 "BallPots$Draws" "broken" "[I" : Cond) ∈ wsX2_renew := rl_wsX2_renew_r1 _ (List.mem_of_getElem? (i := 4) rfl)
theorem mw_X2_renew__7 : (.fieldLink RX2 18 "BallPots$Draws" "lawfulCodes" "[I" : Cond) ∈ wsX2_renew := rl_wsX2_renew_r1 _ (List.mem_of_getElem? (i := 6) rfl)
theorem mw_X2_renew__8 : (.methodLink RX2 52 yJ7_fill_fda19 : Cond) ∈ wsX2_renew := rl_wsX2_renew_r1 _ (List.mem_of_getElem? (i := 7) rfl)
theorem mw_X2_renew__9 : (.static yJ7_fill_fda19 : Cond) ∈ wsX2_renew := rl_wsX2_renew_r1 _ (List.mem_of_getElem? (i := 8) rfl)
theorem mw_X2_renew__10 : (.initialized RJ7 : Cond) ∈ wsX2_renew := rl_wsX2_renew_r1 _ (List.mem_of_getElem? (i := 9) rfl)
theorem mw_X2_renew__11 : (.code yJ7_fill_fda19 cJ7_fill_fda19 5 none : Cond) ∈ wsX2_renew := rl_wsX2_renew_r1 _ (List.mem_of_getElem? (i := 10) rfl)
theorem mw_X2_renew__12 : (.methodLink RJ7 13 yJ7_rangeCheck_23922 : Cond) ∈ wsX2_renew := rl_wsX2_renew_r1 _ (List.mem_of_getElem? (i := 11) rfl)
theorem mw_X2_renew__13 : (.static yJ7_rangeCheck_23922 : Cond) ∈ wsX2_renew := rl_wsX2_renew_r1 _ (List.mem_of_getElem? (i := 12) rfl)
theorem mw_X2_renew__14 : (.code yJ7_rangeCheck_23922 cJ7_rangeCheck_23922 3 none : Cond) ∈ wsX2_renew := rl_wsX2_renew_r1 _ (List.mem_of_getElem? (i := 13) rfl)
theorem mw_X2_renew__15 : (.classLink RJ7 68 RJx00060 : Cond) ∈ wsX2_renew := rl_wsX2_renew_r1 _ (List.mem_of_getElem? (i := 14) rfl)
theorem mw_X2_renew__16 : (.instantiable RJx00060 6 : Cond) ∈ wsX2_renew := rl_wsX2_renew_r1 _ (List.mem_of_getElem? (i := 15) rfl)
theorem mw_X2_renew__17 : (.initialized RJx00060 : Cond) ∈ wsX2_renew := rl_wsX2_renew_r1 _ (List.mem_of_getElem? (i := 16) rfl)
theorem mw_X2_renew__21 : (.initialized RX2 : Cond) ∈ wsX2_renew := rl_wsX2_renew_r1 _ (List.mem_of_getElem? (i := 20) rfl)
theorem mw_X2_renew__39 : (.methodLink RX2 75 yX2_listLawful : Cond) ∈ wsX2_renew := rl_wsX2_renew_r2 _ (List.mem_of_getElem? (i := 14) rfl)
theorem mw_X2_renew__40 : (.instanceMethod yX2_listLawful : Cond) ∈ wsX2_renew := rl_wsX2_renew_r2 _ (List.mem_of_getElem? (i := 15) rfl)
theorem mw_X2_renew__41 : (.selects RX2 yX2_listLawful yX2_listLawful : Cond) ∈ wsX2_renew := rl_wsX2_renew_r2 _ (List.mem_of_getElem? (i := 16) rfl)
theorem mw_X2_renew__42 : (.code yX2_listLawful cX2_listLawful 2 none : Cond) ∈ wsX2_renew := rl_wsX2_renew_r2 _ (List.mem_of_getElem? (i := 17) rfl)
theorem mw_X2_renew__43 : (.fieldLink RX2 92 "BallPots$Draws" "lawfulOnes" "I" : Cond) ∈ wsX2_renew := rl_wsX2_renew_r2 _ (List.mem_of_getElem? (i := 18) rfl)
theorem mw_X2_renew__44 : (.methodLink RX2 78 yX2_tellWithin : Cond) ∈ wsX2_renew := rl_wsX2_renew_r2 _ (List.mem_of_getElem? (i := 19) rfl)
theorem mw_X2_renew__45 : (.instanceMethod yX2_tellWithin : Cond) ∈ wsX2_renew := rl_wsX2_renew_r2 _ (List.mem_of_getElem? (i := 20) rfl)
theorem mw_X2_renew__46 : (.selects RX2 yX2_tellWithin yX2_tellWithin : Cond) ∈ wsX2_renew := rl_wsX2_renew_r2 _ (List.mem_of_getElem? (i := 21) rfl)
theorem mw_X2_renew__47 : (.code yX2_tellWithin cX2_tellWithin 2 none : Cond) ∈ wsX2_renew := rl_wsX2_renew_r2 _ (List.mem_of_getElem? (i := 22) rfl)
theorem mw_X2_renew__48 : (.fieldLink RX2 21 "BallPots$Draws" "within" "[I" : Cond) ∈ wsX2_renew := rl_wsX2_renew_r2 _ (List.mem_of_getElem? (i := 23) rfl)
theorem mw_X2_renew__49 : (.methodLink RX2 95 yJ7_fill_53178 : Cond) ∈ wsX2_renew := rl_wsX2_renew_r3 _ (List.mem_of_getElem? (i := 0) rfl)
theorem mw_X2_renew__50 : (.static yJ7_fill_53178 : Cond) ∈ wsX2_renew := rl_wsX2_renew_r3 _ (List.mem_of_getElem? (i := 1) rfl)
theorem mw_X2_renew__51 : (.code yJ7_fill_53178 cJ7_fill_53178 4 none : Cond) ∈ wsX2_renew := rl_wsX2_renew_r3 _ (List.mem_of_getElem? (i := 2) rfl)
theorem mw_X2_renew__52 : (.methodLink RX2 98 yX2_addUp : Cond) ∈ wsX2_renew := rl_wsX2_renew_r3 _ (List.mem_of_getElem? (i := 3) rfl)
theorem mw_X2_renew__53 : (.static yX2_addUp : Cond) ∈ wsX2_renew := rl_wsX2_renew_r3 _ (List.mem_of_getElem? (i := 4) rfl)
theorem mw_X2_renew__54 : (.code yX2_addUp cX2_addUp 5 none : Cond) ∈ wsX2_renew := rl_wsX2_renew_r3 _ (List.mem_of_getElem? (i := 5) rfl)
theorem mw_X2_tellWithin__1 : (.fieldLink RX2 21 "BallPots$Draws" "within" "[I" : Cond) ∈ wsX2_tellWithin := List.mem_of_getElem? (i := 1) rfl
theorem mw_X2_tellWithin__2 : (.fieldLink RX2 38 "BallPots$Draws" "total" "I" : Cond) ∈ wsX2_tellWithin := List.mem_of_getElem? (i := 2) rfl
theorem mw_X2_tellWithin__3 : (.fieldLink RX2 15 "BallPots$Draws" "broken" "[I" : Cond) ∈ wsX2_tellWithin := List.mem_of_getElem? (i := 3) rfl
theorem mw_X2_tellWithin__4 : (.fieldLink RX2 30 "BallPots$Draws" "plan" "LBallPots$Plan;" : Cond) ∈ wsX2_tellWithin := List.mem_of_getElem? (i := 4) rfl
theorem mw_X2_tellWithin__5 : (.methodLink RX2 95 yJ7_fill_53178 : Cond) ∈ wsX2_tellWithin := List.mem_of_getElem? (i := 5) rfl
theorem mw_X2_tellWithin__6 : (.static yJ7_fill_53178 : Cond) ∈ wsX2_tellWithin := List.mem_of_getElem? (i := 6) rfl
theorem mw_X2_tellWithin__7 : (.initialized RJ7 : Cond) ∈ wsX2_tellWithin := List.mem_of_getElem? (i := 7) rfl
theorem mw_X2_tellWithin__8 : (.code yJ7_fill_53178 cJ7_fill_53178 4 none : Cond) ∈ wsX2_tellWithin := List.mem_of_getElem? (i := 8) rfl
theorem mw_X2_tellWithin__9 : (.methodLink RX2 98 yX2_addUp : Cond) ∈ wsX2_tellWithin := List.mem_of_getElem? (i := 9) rfl
theorem mw_X2_tellWithin__10 : (.static yX2_addUp : Cond) ∈ wsX2_tellWithin := List.mem_of_getElem? (i := 10) rfl
theorem mw_X2_tellWithin__11 : (.initialized RX2 : Cond) ∈ wsX2_tellWithin := List.mem_of_getElem? (i := 11) rfl
theorem mw_X2_tellWithin__12 : (.code yX2_addUp cX2_addUp 5 none : Cond) ∈ wsX2_tellWithin := List.mem_of_getElem? (i := 12) rfl
theorem mw_X3_forget__1 : (.fieldLink RX3 27 "BallPots$Plan" "groups" "I" : Cond) ∈ wsX3_forget := List.mem_of_getElem? (i := 1) rfl
theorem mw_X3_forget__2 : (.fieldLink RX3 31 "BallPots$Plan" "pots" "I" : Cond) ∈ wsX3_forget := List.mem_of_getElem? (i := 2) rfl
theorem mw_X3_forget__3 : (.fieldLink RX3 34 "BallPots$Plan" "teams" "I" : Cond) ∈ wsX3_forget := List.mem_of_getElem? (i := 3) rfl
theorem mw_X3_forget__4 : (.fieldLink RX3 37 "BallPots$Plan" "marks" "I" : Cond) ∈ wsX3_forget := List.mem_of_getElem? (i := 4) rfl
theorem mw_X3_forget__5 : (.fieldLink RX3 40 "BallPots$Plan" "bars" "I" : Cond) ∈ wsX3_forget := List.mem_of_getElem? (i := 5) rfl
theorem mw_X3_forget__6 : (.fieldLink RX3 43 "BallPots$Plan" "groupsNamed" "I" : Cond) ∈ wsX3_forget := List.mem_of_getElem? (i := 6) rfl
theorem mw_X3_init__1 : (.methodLink RX3 3 objectInit : Cond) ∈ wsX3_init := List.mem_of_getElem? (i := 1) rfl
theorem mw_X3_init__2 : (.instanceMethod objectInit : Cond) ∈ wsX3_init := List.mem_of_getElem? (i := 2) rfl
theorem mw_X3_init__3 : (.code objectInit ⟨#[0xb1]⟩ 1 none : Cond) ∈ wsX3_init := List.mem_of_getElem? (i := 3) rfl
theorem mw_X3_init__4 : (.arrayClass .int : Cond) ∈ wsX3_init := List.mem_of_getElem? (i := 4) rfl
theorem mw_X3_init__5 : (.fieldLink RX3 9 "BallPots$Plan" "teamNames" "[I" : Cond) ∈ wsX3_init := List.mem_of_getElem? (i := 5) rfl
theorem mw_X3_init__6 : (.fieldLink RX3 15 "BallPots$Plan" "marksOf" "[I" : Cond) ∈ wsX3_init := List.mem_of_getElem? (i := 6) rfl
theorem mw_X3_init__7 : (.fieldLink RX3 18 "BallPots$Plan" "markNames" "[I" : Cond) ∈ wsX3_init := List.mem_of_getElem? (i := 7) rfl
theorem mw_X3_init__8 : (.fieldLink RX3 21 "BallPots$Plan" "barTeams" "[I" : Cond) ∈ wsX3_init := List.mem_of_getElem? (i := 8) rfl
theorem mw_X3_init__9 : (.fieldLink RX3 24 "BallPots$Plan" "barRooms" "[I" : Cond) ∈ wsX3_init := List.mem_of_getElem? (i := 9) rfl
theorem mw_X3_init__10 : (.fieldLink RX3 27 "BallPots$Plan" "groups" "I" : Cond) ∈ wsX3_init := List.mem_of_getElem? (i := 10) rfl
theorem mw_X3_isGroupNamed__1 : (.fieldLink RX3 43 "BallPots$Plan" "groupsNamed" "I" : Cond) ∈ wsX3_isGroupNamed := List.mem_of_getElem? (i := 1) rfl
theorem mw_X3_markNamed__1 : (.fieldLink RX3 18 "BallPots$Plan" "markNames" "[I" : Cond) ∈ wsX3_markNamed := List.mem_of_getElem? (i := 1) rfl
theorem mw_X3_markNamed__2 : (.fieldLink RX3 37 "BallPots$Plan" "marks" "I" : Cond) ∈ wsX3_markNamed := List.mem_of_getElem? (i := 2) rfl
theorem mw_X3_markNamed__3 : (.methodLink RX3 52 yX3_find : Cond) ∈ wsX3_markNamed := List.mem_of_getElem? (i := 3) rfl
theorem mw_X3_markNamed__4 : (.static yX3_find : Cond) ∈ wsX3_markNamed := List.mem_of_getElem? (i := 4) rfl
theorem mw_X3_markNamed__5 : (.initialized RX3 : Cond) ∈ wsX3_markNamed := List.mem_of_getElem? (i := 5) rfl
theorem mw_X3_markNamed__6 : (.code yX3_find cX3_find 4 (some .int) : Cond) ∈ wsX3_markNamed := List.mem_of_getElem? (i := 6) rfl
theorem mw_X3_potOf__1 : (.fieldLink RX3 27 "BallPots$Plan" "groups" "I" : Cond) ∈ wsX3_potOf := List.mem_of_getElem? (i := 1) rfl
theorem mw_X3_take__1 : (.fieldLink RX3 27 "BallPots$Plan" "groups" "I" : Cond) ∈ wsX3_take := List.mem_of_getElem? (i := 1) rfl
theorem mw_X3_take__2 : (.fieldLink RX3 31 "BallPots$Plan" "pots" "I" : Cond) ∈ wsX3_take := List.mem_of_getElem? (i := 2) rfl
theorem mw_X3_take__3 : (.fieldLink RX3 34 "BallPots$Plan" "teams" "I" : Cond) ∈ wsX3_take := List.mem_of_getElem? (i := 3) rfl
theorem mw_X3_take__4 : (.fieldLink RX3 37 "BallPots$Plan" "marks" "I" : Cond) ∈ wsX3_take := List.mem_of_getElem? (i := 4) rfl
theorem mw_X3_take__5 : (.fieldLink RX3 40 "BallPots$Plan" "bars" "I" : Cond) ∈ wsX3_take := List.mem_of_getElem? (i := 5) rfl
theorem mw_X3_take__6 : (.fieldLink RX3 43 "BallPots$Plan" "groupsNamed" "I" : Cond) ∈ wsX3_take := List.mem_of_getElem? (i := 6) rfl
theorem mw_X3_take__7 : (.fieldLink RX3 9 "BallPots$Plan" "teamNames" "[I" : Cond) ∈ wsX3_take := List.mem_of_getElem? (i := 7) rfl
theorem mw_X3_take__8 : (.methodLink RX3 46 arraycopyName : Cond) ∈ wsX3_take := List.mem_of_getElem? (i := 8) rfl
theorem mw_X3_take__9 : (.native arraycopyName : Cond) ∈ wsX3_take := List.mem_of_getElem? (i := 9) rfl
theorem mw_X3_take__10 : (.static arraycopyName : Cond) ∈ wsX3_take := List.mem_of_getElem? (i := 10) rfl
theorem mw_X3_take__11 : (.initialized "java/lang/System" : Cond) ∈ wsX3_take := List.mem_of_getElem? (i := 11) rfl
theorem mw_X3_take__12 : (.fieldLink RX3 15 "BallPots$Plan" "marksOf" "[I" : Cond) ∈ wsX3_take := List.mem_of_getElem? (i := 12) rfl
theorem mw_X3_take__13 : (.fieldLink RX3 18 "BallPots$Plan" "markNames" "[I" : Cond) ∈ wsX3_take := List.mem_of_getElem? (i := 13) rfl
theorem mw_X3_take__14 : (.fieldLink RX3 21 "BallPots$Plan" "barTeams" "[I" : Cond) ∈ wsX3_take := List.mem_of_getElem? (i := 14) rfl
theorem mw_X3_take__15 : (.fieldLink RX3 24 "BallPots$Plan" "barRooms" "[I" : Cond) ∈ wsX3_take := List.mem_of_getElem? (i := 15) rfl
theorem mw_X3_teamNamed__1 : (.fieldLink RX3 9 "BallPots$Plan" "teamNames" "[I" : Cond) ∈ wsX3_teamNamed := List.mem_of_getElem? (i := 1) rfl
theorem mw_X3_teamNamed__2 : (.fieldLink RX3 34 "BallPots$Plan" "teams" "I" : Cond) ∈ wsX3_teamNamed := List.mem_of_getElem? (i := 2) rfl
theorem mw_X3_teamNamed__3 : (.methodLink RX3 52 yX3_find : Cond) ∈ wsX3_teamNamed := List.mem_of_getElem? (i := 3) rfl
theorem mw_X3_teamNamed__4 : (.static yX3_find : Cond) ∈ wsX3_teamNamed := List.mem_of_getElem? (i := 4) rfl
theorem mw_X3_teamNamed__5 : (.initialized RX3 : Cond) ∈ wsX3_teamNamed := List.mem_of_getElem? (i := 5) rfl
theorem mw_X3_teamNamed__6 : (.code yX3_find cX3_find 4 (some .int) : Cond) ∈ wsX3_teamNamed := List.mem_of_getElem? (i := 6) rfl
theorem mw_X4_addRow__1 : (.fieldLink RX4 27 "BallPots$Ranks" "groups" "I" : Cond) ∈ wsX4_addRow := List.mem_of_getElem? (i := 1) rfl
theorem mw_X4_addRow__2 : (.fieldLink RX4 24 "BallPots$Ranks" "row" "[I" : Cond) ∈ wsX4_addRow := List.mem_of_getElem? (i := 2) rfl
theorem mw_X4_addRow__3 : (.fieldLink RX4 9 "BallPots$Ranks" "groupOf" "[I" : Cond) ∈ wsX4_addRow := List.mem_of_getElem? (i := 3) rfl
theorem mw_X4_addRow__4 : (.fieldLink RX4 31 "BallPots$Ranks" "many" "I" : Cond) ∈ wsX4_addRow := List.mem_of_getElem? (i := 4) rfl
theorem mw_X4_addRow__5 : (.fieldLink RX4 15 "BallPots$Ranks" "placeIn" "[I" : Cond) ∈ wsX4_addRow := List.mem_of_getElem? (i := 5) rfl
theorem mw_X4_addRow__6 : (.fieldLink RX4 18 "BallPots$Ranks" "having" "[I" : Cond) ∈ wsX4_addRow := List.mem_of_getElem? (i := 6) rfl
theorem mw_X4_groupAt__1 : (.fieldLink RX4 9 "BallPots$Ranks" "groupOf" "[I" : Cond) ∈ wsX4_groupAt := List.mem_of_getElem? (i := 1) rfl
theorem mw_X4_init__1 : (.methodLink RX4 3 objectInit : Cond) ∈ wsX4_init := List.mem_of_getElem? (i := 1) rfl
theorem mw_X4_init__2 : (.instanceMethod objectInit : Cond) ∈ wsX4_init := List.mem_of_getElem? (i := 2) rfl
theorem mw_X4_init__3 : (.code objectInit ⟨#[0xb1]⟩ 1 none : Cond) ∈ wsX4_init := List.mem_of_getElem? (i := 3) rfl
theorem mw_X4_init__4 : (.arrayClass .int : Cond) ∈ wsX4_init := List.mem_of_getElem? (i := 4) rfl
theorem mw_X4_init__5 : (.fieldLink RX4 9 "BallPots$Ranks" "groupOf" "[I" : Cond) ∈ wsX4_init := List.mem_of_getElem? (i := 5) rfl
theorem mw_X4_init__6 : (.fieldLink RX4 15 "BallPots$Ranks" "placeIn" "[I" : Cond) ∈ wsX4_init := List.mem_of_getElem? (i := 6) rfl
theorem mw_X4_init__7 : (.fieldLink RX4 18 "BallPots$Ranks" "having" "[I" : Cond) ∈ wsX4_init := List.mem_of_getElem? (i := 7) rfl
theorem mw_X4_init__8 : (.fieldLink RX4 21 "BallPots$Ranks" "swapped" "[I" : Cond) ∈ wsX4_init := List.mem_of_getElem? (i := 8) rfl
theorem mw_X4_init__9 : (.fieldLink RX4 24 "BallPots$Ranks" "row" "[I" : Cond) ∈ wsX4_init := List.mem_of_getElem? (i := 9) rfl
theorem mw_X4_only__1 : (.methodLink RX4 69 yJ6_bitCount_0f7a4 : Cond) ∈ wsX4_only := List.mem_of_getElem? (i := 1) rfl
theorem mw_X4_only__2 : (.static yJ6_bitCount_0f7a4 : Cond) ∈ wsX4_only := List.mem_of_getElem? (i := 2) rfl
theorem mw_X4_only__3 : (.initialized RJ6 : Cond) ∈ wsX4_only := List.mem_of_getElem? (i := 3) rfl
theorem mw_X4_only__4 : (.code yJ6_bitCount_0f7a4 cJ6_bitCount_0f7a4 1 (some .int) : Cond) ∈ wsX4_only := List.mem_of_getElem? (i := 4) rfl
theorem mw_X4_only__5 : (.constant RJ6 265 (1431655765) : Cond) ∈ wsX4_only := List.mem_of_getElem? (i := 5) rfl
theorem mw_X4_only__6 : (.constant RJ6 266 (858993459) : Cond) ∈ wsX4_only := List.mem_of_getElem? (i := 6) rfl
theorem mw_X4_only__7 : (.constant RJ6 267 (252645135) : Cond) ∈ wsX4_only := List.mem_of_getElem? (i := 7) rfl
theorem mw_X4_rankWithSwapped__1 : (.fieldLink RX4 47 "BallPots$Ranks" "everyRank" "I" : Cond) ∈ wsX4_rankWithSwapped := List.mem_of_getElem? (i := 1) rfl
theorem mw_X4_rankWithSwapped__2 : (.fieldLink RX4 27 "BallPots$Ranks" "groups" "I" : Cond) ∈ wsX4_rankWithSwapped := List.mem_of_getElem? (i := 2) rfl
theorem mw_X4_rankWithSwapped__3 : (.fieldLink RX4 18 "BallPots$Ranks" "having" "[I" : Cond) ∈ wsX4_rankWithSwapped := List.mem_of_getElem? (i := 3) rfl
theorem mw_X4_rankWithSwapped__4 : (.methodLink RX4 61 yX4_groupAt : Cond) ∈ wsX4_rankWithSwapped := List.mem_of_getElem? (i := 4) rfl
theorem mw_X4_rankWithSwapped__5 : (.instanceMethod yX4_groupAt : Cond) ∈ wsX4_rankWithSwapped := List.mem_of_getElem? (i := 5) rfl
theorem mw_X4_rankWithSwapped__6 : (.selects RX4 yX4_groupAt yX4_groupAt : Cond) ∈ wsX4_rankWithSwapped := List.mem_of_getElem? (i := 6) rfl
theorem mw_X4_rankWithSwapped__7 : (.initialized RX4 : Cond) ∈ wsX4_rankWithSwapped := List.mem_of_getElem? (i := 7) rfl
theorem mw_X4_rankWithSwapped__8 : (.code yX4_groupAt cX4_groupAt 3 (some .int) : Cond) ∈ wsX4_rankWithSwapped := List.mem_of_getElem? (i := 8) rfl
theorem mw_X4_rankWithSwapped__9 : (.fieldLink RX4 9 "BallPots$Ranks" "groupOf" "[I" : Cond) ∈ wsX4_rankWithSwapped := List.mem_of_getElem? (i := 9) rfl
theorem mw_X4_rankWithSwapped__10 : (.methodLink RX4 65 yX4_only : Cond) ∈ wsX4_rankWithSwapped := List.mem_of_getElem? (i := 10) rfl
theorem mw_X4_rankWithSwapped__11 : (.static yX4_only : Cond) ∈ wsX4_rankWithSwapped := List.mem_of_getElem? (i := 11) rfl
theorem mw_X4_rankWithSwapped__12 : (.code yX4_only cX4_only 1 (some .int) : Cond) ∈ wsX4_rankWithSwapped := List.mem_of_getElem? (i := 12) rfl
theorem mw_X4_rankWithSwapped__13 : (.methodLink RX4 69 yJ6_bitCount_0f7a4 : Cond) ∈ wsX4_rankWithSwapped := List.mem_of_getElem? (i := 13) rfl
theorem mw_X4_rankWithSwapped__14 : (.static yJ6_bitCount_0f7a4 : Cond) ∈ wsX4_rankWithSwapped := List.mem_of_getElem? (i := 14) rfl
theorem mw_X4_rankWithSwapped__15 : (.initialized RJ6 : Cond) ∈ wsX4_rankWithSwapped := List.mem_of_getElem? (i := 15) rfl
theorem mw_X4_rankWithSwapped__16 : (.code yJ6_bitCount_0f7a4 cJ6_bitCount_0f7a4 1 (some .int) : Cond) ∈ wsX4_rankWithSwapped := List.mem_of_getElem? (i := 16) rfl
theorem mw_X4_rankWithSwapped__17 : (.constant RJ6 265 (1431655765) : Cond) ∈ wsX4_rankWithSwapped := List.mem_of_getElem? (i := 17) rfl
theorem mw_X4_rankWithSwapped__18 : (.constant RJ6 266 (858993459) : Cond) ∈ wsX4_rankWithSwapped := List.mem_of_getElem? (i := 18) rfl
theorem mw_X4_rankWithSwapped__19 : (.constant RJ6 267 (252645135) : Cond) ∈ wsX4_rankWithSwapped := List.mem_of_getElem? (i := 19) rfl
theorem mw_X4_set__1 : (.fieldLink RX4 27 "BallPots$Ranks" "groups" "I" : Cond) ∈ wsX4_set := rl_wsX4_set_r1 _ (List.mem_of_getElem? (i := 0) rfl)
theorem mw_X4_set__2 : (.fieldLink RX4 31 "BallPots$Ranks" "many" "I" : Cond) ∈ wsX4_set := rl_wsX4_set_r1 _ (List.mem_of_getElem? (i := 1) rfl)
theorem mw_X4_set__3 : (.fieldLink RX4 18 "BallPots$Ranks" "having" "[I" : Cond) ∈ wsX4_set := rl_wsX4_set_r1 _ (List.mem_of_getElem? (i := 2) rfl)
theorem mw_X4_set__4 : (.fieldLink RX4 24 "BallPots$Ranks" "row" "[I" : Cond) ∈ wsX4_set := rl_wsX4_set_r1 _ (List.mem_of_getElem? (i := 3) rfl)
theorem mw_X4_set__5 : (.fieldLink RX4 47 "BallPots$Ranks" "everyRank" "I" : Cond) ∈ wsX4_set := rl_wsX4_set_r1 _ (List.mem_of_getElem? (i := 4) rfl)
theorem mw_X4_set__6 : (.methodLink RX4 34 yJ7_fill_53178 : Cond) ∈ wsX4_set := rl_wsX4_set_r1 _ (List.mem_of_getElem? (i := 5) rfl)
theorem mw_X4_set__7 : (.static yJ7_fill_53178 : Cond) ∈ wsX4_set := rl_wsX4_set_r1 _ (List.mem_of_getElem? (i := 6) rfl)
theorem mw_X4_set__8 : (.initialized RJ7 : Cond) ∈ wsX4_set := rl_wsX4_set_r1 _ (List.mem_of_getElem? (i := 7) rfl)
theorem mw_X4_set__9 : (.code yJ7_fill_53178 cJ7_fill_53178 4 none : Cond) ∈ wsX4_set := rl_wsX4_set_r1 _ (List.mem_of_getElem? (i := 8) rfl)
theorem mw_X4_set__10 : (.methodLink RX4 40 yX4_readRow : Cond) ∈ wsX4_set := rl_wsX4_set_r1 _ (List.mem_of_getElem? (i := 9) rfl)
theorem mw_X4_set__11 : (.static yX4_readRow : Cond) ∈ wsX4_set := rl_wsX4_set_r1 _ (List.mem_of_getElem? (i := 10) rfl)
theorem mw_X4_set__12 : (.initialized RX4 : Cond) ∈ wsX4_set := rl_wsX4_set_r1 _ (List.mem_of_getElem? (i := 11) rfl)
theorem mw_X4_set__13 : (.code yX4_readRow cX4_readRow 5 (some .boolean) : Cond) ∈ wsX4_set := rl_wsX4_set_r1 _ (List.mem_of_getElem? (i := 12) rfl)
theorem mw_X4_set__14 : (.methodLink RX4 44 yX4_addRow : Cond) ∈ wsX4_set := rl_wsX4_set_r1 _ (List.mem_of_getElem? (i := 13) rfl)
theorem mw_X4_set__15 : (.instanceMethod yX4_addRow : Cond) ∈ wsX4_set := rl_wsX4_set_r1 _ (List.mem_of_getElem? (i := 14) rfl)
theorem mw_X4_set__16 : (.selects RX4 yX4_addRow yX4_addRow : Cond) ∈ wsX4_set := rl_wsX4_set_r1 _ (List.mem_of_getElem? (i := 15) rfl)
theorem mw_X4_set__17 : (.code yX4_addRow cX4_addRow 3 none : Cond) ∈ wsX4_set := rl_wsX4_set_r1 _ (List.mem_of_getElem? (i := 16) rfl)
theorem mw_X4_set__18 : (.fieldLink RX4 9 "BallPots$Ranks" "groupOf" "[I" : Cond) ∈ wsX4_set := rl_wsX4_set_r1 _ (List.mem_of_getElem? (i := 17) rfl)
theorem mw_X4_set__19 : (.fieldLink RX4 15 "BallPots$Ranks" "placeIn" "[I" : Cond) ∈ wsX4_set := rl_wsX4_set_r1 _ (List.mem_of_getElem? (i := 18) rfl)
theorem mw_X4_set__20 : (.methodLink RX4 50 yX4_setSwaps : Cond) ∈ wsX4_set := rl_wsX4_set_r1 _ (List.mem_of_getElem? (i := 19) rfl)
theorem mw_X4_set__21 : (.instanceMethod yX4_setSwaps : Cond) ∈ wsX4_set := rl_wsX4_set_r1 _ (List.mem_of_getElem? (i := 20) rfl)
theorem mw_X4_set__22 : (.selects RX4 yX4_setSwaps yX4_setSwaps : Cond) ∈ wsX4_set := rl_wsX4_set_r1 _ (List.mem_of_getElem? (i := 21) rfl)
theorem mw_X4_set__23 : (.code yX4_setSwaps cX4_setSwaps 5 none : Cond) ∈ wsX4_set := rl_wsX4_set_r1 _ (List.mem_of_getElem? (i := 22) rfl)
theorem mw_X4_set__24 : (.fieldLink RX4 21 "BallPots$Ranks" "swapped" "[I" : Cond) ∈ wsX4_set := rl_wsX4_set_r1 _ (List.mem_of_getElem? (i := 23) rfl)
theorem mw_X4_set__25 : (.fieldLink RX4 58 "BallPots$Ranks" "swapsAPot" "I" : Cond) ∈ wsX4_set := rl_wsX4_set_r2 _ (List.mem_of_getElem? (i := 0) rfl)
theorem mw_X4_set__26 : (.methodLink RX4 54 yX4_rankWithSwapped : Cond) ∈ wsX4_set := rl_wsX4_set_r2 _ (List.mem_of_getElem? (i := 1) rfl)
theorem mw_X4_set__27 : (.instanceMethod yX4_rankWithSwapped : Cond) ∈ wsX4_set := rl_wsX4_set_r2 _ (List.mem_of_getElem? (i := 2) rfl)
theorem mw_X4_set__28 : (.selects RX4 yX4_rankWithSwapped yX4_rankWithSwapped : Cond) ∈ wsX4_set := rl_wsX4_set_r2 _ (List.mem_of_getElem? (i := 3) rfl)
theorem mw_X4_set__29 : (.code yX4_rankWithSwapped cX4_rankWithSwapped 8 (some .int) : Cond) ∈ wsX4_set := rl_wsX4_set_r2 _ (List.mem_of_getElem? (i := 4) rfl)
theorem mw_X4_set__30 : (.methodLink RX4 61 yX4_groupAt : Cond) ∈ wsX4_set := rl_wsX4_set_r2 _ (List.mem_of_getElem? (i := 5) rfl)
theorem mw_X4_set__31 : (.instanceMethod yX4_groupAt : Cond) ∈ wsX4_set := rl_wsX4_set_r2 _ (List.mem_of_getElem? (i := 6) rfl)
theorem mw_X4_set__32 : (.selects RX4 yX4_groupAt yX4_groupAt : Cond) ∈ wsX4_set := rl_wsX4_set_r2 _ (List.mem_of_getElem? (i := 7) rfl)
theorem mw_X4_set__33 : (.code yX4_groupAt cX4_groupAt 3 (some .int) : Cond) ∈ wsX4_set := rl_wsX4_set_r2 _ (List.mem_of_getElem? (i := 8) rfl)
theorem mw_X4_set__34 : (.methodLink RX4 65 yX4_only : Cond) ∈ wsX4_set := rl_wsX4_set_r2 _ (List.mem_of_getElem? (i := 9) rfl)
theorem mw_X4_set__35 : (.static yX4_only : Cond) ∈ wsX4_set := rl_wsX4_set_r2 _ (List.mem_of_getElem? (i := 10) rfl)
theorem mw_X4_set__36 : (.code yX4_only cX4_only 1 (some .int) : Cond) ∈ wsX4_set := rl_wsX4_set_r2 _ (List.mem_of_getElem? (i := 11) rfl)
theorem mw_X4_set__37 : (.methodLink RX4 69 yJ6_bitCount_0f7a4 : Cond) ∈ wsX4_set := rl_wsX4_set_r2 _ (List.mem_of_getElem? (i := 12) rfl)
theorem mw_X4_set__38 : (.static yJ6_bitCount_0f7a4 : Cond) ∈ wsX4_set := rl_wsX4_set_r2 _ (List.mem_of_getElem? (i := 13) rfl)
theorem mw_X4_set__39 : (.initialized RJ6 : Cond) ∈ wsX4_set := rl_wsX4_set_r2 _ (List.mem_of_getElem? (i := 14) rfl)
theorem mw_X4_set__40 : (.code yJ6_bitCount_0f7a4 cJ6_bitCount_0f7a4 1 (some .int) : Cond) ∈ wsX4_set := rl_wsX4_set_r2 _ (List.mem_of_getElem? (i := 15) rfl)
theorem mw_X4_set__41 : (.constant RJ6 265 (1431655765) : Cond) ∈ wsX4_set := rl_wsX4_set_r2 _ (List.mem_of_getElem? (i := 16) rfl)
theorem mw_X4_set__42 : (.constant RJ6 266 (858993459) : Cond) ∈ wsX4_set := rl_wsX4_set_r2 _ (List.mem_of_getElem? (i := 17) rfl)
theorem mw_X4_set__43 : (.constant RJ6 267 (252645135) : Cond) ∈ wsX4_set := rl_wsX4_set_r2 _ (List.mem_of_getElem? (i := 18) rfl)
theorem mw_X4_setSwaps__1 : (.fieldLink RX4 27 "BallPots$Ranks" "groups" "I" : Cond) ∈ wsX4_setSwaps := rl_wsX4_setSwaps_r1 _ (List.mem_of_getElem? (i := 0) rfl)
theorem mw_X4_setSwaps__2 : (.fieldLink RX4 21 "BallPots$Ranks" "swapped" "[I" : Cond) ∈ wsX4_setSwaps := rl_wsX4_setSwaps_r1 _ (List.mem_of_getElem? (i := 1) rfl)
theorem mw_X4_setSwaps__3 : (.fieldLink RX4 58 "BallPots$Ranks" "swapsAPot" "I" : Cond) ∈ wsX4_setSwaps := rl_wsX4_setSwaps_r1 _ (List.mem_of_getElem? (i := 2) rfl)
theorem mw_X4_setSwaps__4 : (.methodLink RX4 54 yX4_rankWithSwapped : Cond) ∈ wsX4_setSwaps := rl_wsX4_setSwaps_r1 _ (List.mem_of_getElem? (i := 3) rfl)
theorem mw_X4_setSwaps__5 : (.instanceMethod yX4_rankWithSwapped : Cond) ∈ wsX4_setSwaps := rl_wsX4_setSwaps_r1 _ (List.mem_of_getElem? (i := 4) rfl)
theorem mw_X4_setSwaps__6 : (.selects RX4 yX4_rankWithSwapped yX4_rankWithSwapped : Cond) ∈ wsX4_setSwaps := rl_wsX4_setSwaps_r1 _ (List.mem_of_getElem? (i := 5) rfl)
theorem mw_X4_setSwaps__7 : (.initialized RX4 : Cond) ∈ wsX4_setSwaps := rl_wsX4_setSwaps_r1 _ (List.mem_of_getElem? (i := 6) rfl)
theorem mw_X4_setSwaps__8 : (.code yX4_rankWithSwapped cX4_rankWithSwapped 8 (some .int) : Cond) ∈ wsX4_setSwaps := rl_wsX4_setSwaps_r1 _ (List.mem_of_getElem? (i := 7) rfl)
theorem mw_X4_setSwaps__9 : (.fieldLink RX4 47 "BallPots$Ranks" "everyRank" "I" : Cond) ∈ wsX4_setSwaps := rl_wsX4_setSwaps_r1 _ (List.mem_of_getElem? (i := 8) rfl)
theorem mw_X4_setSwaps__10 : (.fieldLink RX4 18 "BallPots$Ranks" "having" "[I" : Cond) ∈ wsX4_setSwaps := rl_wsX4_setSwaps_r1 _ (List.mem_of_getElem? (i := 9) rfl)
theorem mw_X4_setSwaps__11 : (.methodLink RX4 61 yX4_groupAt : Cond) ∈ wsX4_setSwaps := rl_wsX4_setSwaps_r1 _ (List.mem_of_getElem? (i := 10) rfl)
theorem mw_X4_setSwaps__12 : (.instanceMethod yX4_groupAt : Cond) ∈ wsX4_setSwaps := rl_wsX4_setSwaps_r1 _ (List.mem_of_getElem? (i := 11) rfl)
theorem mw_X4_setSwaps__13 : (.selects RX4 yX4_groupAt yX4_groupAt : Cond) ∈ wsX4_setSwaps := rl_wsX4_setSwaps_r1 _ (List.mem_of_getElem? (i := 12) rfl)
theorem mw_X4_setSwaps__14 : (.code yX4_groupAt cX4_groupAt 3 (some .int) : Cond) ∈ wsX4_setSwaps := rl_wsX4_setSwaps_r1 _ (List.mem_of_getElem? (i := 13) rfl)
theorem mw_X4_setSwaps__15 : (.fieldLink RX4 9 "BallPots$Ranks" "groupOf" "[I" : Cond) ∈ wsX4_setSwaps := rl_wsX4_setSwaps_r1 _ (List.mem_of_getElem? (i := 14) rfl)
theorem mw_X4_setSwaps__16 : (.methodLink RX4 65 yX4_only : Cond) ∈ wsX4_setSwaps := rl_wsX4_setSwaps_r1 _ (List.mem_of_getElem? (i := 15) rfl)
theorem mw_X4_setSwaps__17 : (.static yX4_only : Cond) ∈ wsX4_setSwaps := rl_wsX4_setSwaps_r1 _ (List.mem_of_getElem? (i := 16) rfl)
theorem mw_X4_setSwaps__18 : (.code yX4_only cX4_only 1 (some .int) : Cond) ∈ wsX4_setSwaps := rl_wsX4_setSwaps_r1 _ (List.mem_of_getElem? (i := 17) rfl)
theorem mw_X4_setSwaps__19 : (.methodLink RX4 69 yJ6_bitCount_0f7a4 : Cond) ∈ wsX4_setSwaps := rl_wsX4_setSwaps_r1 _ (List.mem_of_getElem? (i := 18) rfl)
theorem mw_X4_setSwaps__20 : (.static yJ6_bitCount_0f7a4 : Cond) ∈ wsX4_setSwaps := rl_wsX4_setSwaps_r1 _ (List.mem_of_getElem? (i := 19) rfl)
theorem mw_X4_setSwaps__21 : (.initialized RJ6 : Cond) ∈ wsX4_setSwaps := rl_wsX4_setSwaps_r1 _ (List.mem_of_getElem? (i := 20) rfl)
theorem mw_X4_setSwaps__22 : (.code yJ6_bitCount_0f7a4 cJ6_bitCount_0f7a4 1 (some .int) : Cond) ∈ wsX4_setSwaps := rl_wsX4_setSwaps_r1 _ (List.mem_of_getElem? (i := 21) rfl)
theorem mw_X4_setSwaps__23 : (.constant RJ6 265 (1431655765) : Cond) ∈ wsX4_setSwaps := rl_wsX4_setSwaps_r1 _ (List.mem_of_getElem? (i := 22) rfl)
theorem mw_X4_setSwaps__24 : (.constant RJ6 266 (858993459) : Cond) ∈ wsX4_setSwaps := rl_wsX4_setSwaps_r1 _ (List.mem_of_getElem? (i := 23) rfl)
theorem mw_X4_setSwaps__25 : (.constant RJ6 267 (252645135) : Cond) ∈ wsX4_setSwaps := rl_wsX4_setSwaps_r2 _ (List.mem_of_getElem? (i := 0) rfl)
theorem mw_X5_init__1 : (.methodLink RX5 3 objectInit : Cond) ∈ wsX5_init := List.mem_of_getElem? (i := 1) rfl
theorem mw_X5_init__2 : (.instanceMethod objectInit : Cond) ∈ wsX5_init := List.mem_of_getElem? (i := 2) rfl
theorem mw_X5_init__3 : (.code objectInit ⟨#[0xb1]⟩ 1 none : Cond) ∈ wsX5_init := List.mem_of_getElem? (i := 3) rfl
theorem mw_X5_init__4 : (.classLink RX5 9 RX3 : Cond) ∈ wsX5_init := List.mem_of_getElem? (i := 4) rfl
theorem mw_X5_init__5 : (.instantiable RX3 11 : Cond) ∈ wsX5_init := List.mem_of_getElem? (i := 5) rfl
theorem mw_X5_init__6 : (.initialized RX3 : Cond) ∈ wsX5_init := List.mem_of_getElem? (i := 6) rfl
theorem mw_X5_init__7 : (.fieldLink RX5 12 "BallPots$Reader" "plan" "LBallPots$Plan;" : Cond) ∈ wsX5_init := List.mem_of_getElem? (i := 7) rfl
theorem mw_X5_init__8 : (.fieldLink RX5 18 "BallPots$Reader" "place" "I" : Cond) ∈ wsX5_init := List.mem_of_getElem? (i := 8) rfl
theorem mw_X5_init__9 : (.fieldLink RX5 22 "BallPots$Reader" "signs" "[I" : Cond) ∈ wsX5_init := List.mem_of_getElem? (i := 9) rfl
theorem mw_X5_init__10 : (.methodLink RX5 11 yX3_init : Cond) ∈ wsX5_init := List.mem_of_getElem? (i := 10) rfl
theorem mw_X5_init__11 : (.instanceMethod yX3_init : Cond) ∈ wsX5_init := List.mem_of_getElem? (i := 11) rfl
theorem mw_X5_init__12 : (.code yX3_init cX3_init 1 none : Cond) ∈ wsX5_init := List.mem_of_getElem? (i := 12) rfl
theorem mw_X5_init__13 : (.methodLink RX3 3 objectInit : Cond) ∈ wsX5_init := List.mem_of_getElem? (i := 13) rfl
theorem mw_X5_init__14 : (.arrayClass .int : Cond) ∈ wsX5_init := List.mem_of_getElem? (i := 14) rfl
theorem mw_X5_init__15 : (.fieldLink RX3 9 "BallPots$Plan" "teamNames" "[I" : Cond) ∈ wsX5_init := List.mem_of_getElem? (i := 15) rfl
theorem mw_X5_init__16 : (.fieldLink RX3 15 "BallPots$Plan" "marksOf" "[I" : Cond) ∈ wsX5_init := List.mem_of_getElem? (i := 16) rfl
theorem mw_X5_init__17 : (.fieldLink RX3 18 "BallPots$Plan" "markNames" "[I" : Cond) ∈ wsX5_init := List.mem_of_getElem? (i := 17) rfl
theorem mw_X5_init__18 : (.fieldLink RX3 21 "BallPots$Plan" "barTeams" "[I" : Cond) ∈ wsX5_init := List.mem_of_getElem? (i := 18) rfl
theorem mw_X5_init__19 : (.fieldLink RX3 24 "BallPots$Plan" "barRooms" "[I" : Cond) ∈ wsX5_init := List.mem_of_getElem? (i := 19) rfl
theorem mw_X5_init__20 : (.fieldLink RX3 27 "BallPots$Plan" "groups" "I" : Cond) ∈ wsX5_init := List.mem_of_getElem? (i := 20) rfl
theorem mw_X5_readLines__1 : (.fieldLink RX5 22 "BallPots$Reader" "signs" "[I" : Cond) ∈ wsX5_readLines := rl_wsX5_readLines_r1 _ (List.mem_of_getElem? (i := 0) rfl)
theorem mw_X5_readLines__2 : (.methodLink RX5 26 Lib.Math.min.name : Cond) ∈ wsX5_readLines := rl_wsX5_readLines_r1 _ (List.mem_of_getElem? (i := 1) rfl)
theorem mw_X5_readLines__3 : (.static Lib.Math.min.name : Cond) ∈ wsX5_readLines := rl_wsX5_readLines_r1 _ (List.mem_of_getElem? (i := 2) rfl)
theorem mw_X5_readLines__4 : (.initialized "java/lang/Math" : Cond) ∈ wsX5_readLines := rl_wsX5_readLines_r1 _ (List.mem_of_getElem? (i := 3) rfl)
theorem mw_X5_readLines__5 : (.code Lib.Math.min.name Lib.Math.min.code 2 (some .int) : Cond) ∈ wsX5_readLines := rl_wsX5_readLines_r1 _ (List.mem_of_getElem? (i := 4) rfl)
theorem mw_X5_readLines__6 : (.fieldLink RX5 32 "BallPots$Reader" "length" "I" : Cond) ∈ wsX5_readLines := rl_wsX5_readLines_r1 _ (List.mem_of_getElem? (i := 5) rfl)
theorem mw_X5_readLines__7 : (.fieldLink RX5 35 "BallPots$Reader" "at" "I" : Cond) ∈ wsX5_readLines := rl_wsX5_readLines_r1 _ (List.mem_of_getElem? (i := 6) rfl)
theorem mw_X5_readLines__8 : (.fieldLink RX5 38 "BallPots$Reader" "fault" "I" : Cond) ∈ wsX5_readLines := rl_wsX5_readLines_r1 _ (List.mem_of_getElem? (i := 7) rfl)
theorem mw_X5_readLines__9 : (.fieldLink RX5 18 "BallPots$Reader" "place" "I" : Cond) ∈ wsX5_readLines := rl_wsX5_readLines_r1 _ (List.mem_of_getElem? (i := 8) rfl)
theorem mw_X5_readLines__10 : (.fieldLink RX5 12 "BallPots$Reader" "plan" "LBallPots$Plan;" : Cond) ∈ wsX5_readLines := rl_wsX5_readLines_r1 _ (List.mem_of_getElem? (i := 9) rfl)
theorem mw_X5_readLines__11 : (.fieldLink RX5 47 "BallPots$Reader" "kind" "I" : Cond) ∈ wsX5_readLines := rl_wsX5_readLines_r1 _ (List.mem_of_getElem? (i := 10) rfl)
theorem mw_X5_readLines__12 : (.methodLink RX5 41 yX3_forget : Cond) ∈ wsX5_readLines := rl_wsX5_readLines_r1 _ (List.mem_of_getElem? (i := 11) rfl)
theorem mw_X5_readLines__13 : (.instanceMethod yX3_forget : Cond) ∈ wsX5_readLines := rl_wsX5_readLines_r1 _ (List.mem_of_getElem? (i := 12) rfl)
theorem mw_X5_readLines__14 : (.selects RX3 yX3_forget yX3_forget : Cond) ∈ wsX5_readLines := rl_wsX5_readLines_r1 _ (List.mem_of_getElem? (i := 13) rfl)
theorem mw_X5_readLines__15 : (.initialized RX3 : Cond) ∈ wsX5_readLines := rl_wsX5_readLines_r1 _ (List.mem_of_getElem? (i := 14) rfl)
theorem mw_X5_readLines__16 : (.code yX3_forget cX3_forget 1 none : Cond) ∈ wsX5_readLines := rl_wsX5_readLines_r1 _ (List.mem_of_getElem? (i := 15) rfl)
theorem mw_X5_readLines__17 : (.fieldLink RX3 27 "BallPots$Plan" "groups" "I" : Cond) ∈ wsX5_readLines := rl_wsX5_readLines_r1 _ (List.mem_of_getElem? (i := 16) rfl)
theorem mw_X5_readLines__18 : (.fieldLink RX3 31 "BallPots$Plan" "pots" "I" : Cond) ∈ wsX5_readLines := rl_wsX5_readLines_r1 _ (List.mem_of_getElem? (i := 17) rfl)
theorem mw_X5_readLines__19 : (.fieldLink RX3 34 "BallPots$Plan" "teams" "I" : Cond) ∈ wsX5_readLines := rl_wsX5_readLines_r1 _ (List.mem_of_getElem? (i := 18) rfl)
theorem mw_X5_readLines__20 : (.fieldLink RX3 37 "BallPots$Plan" "marks" "I" : Cond) ∈ wsX5_readLines := rl_wsX5_readLines_r1 _ (List.mem_of_getElem? (i := 19) rfl)
theorem mw_X5_readLines__21 : (.fieldLink RX3 40 "BallPots$Plan" "bars" "I" : Cond) ∈ wsX5_readLines := rl_wsX5_readLines_r1 _ (List.mem_of_getElem? (i := 20) rfl)
theorem mw_X5_readLines__22 : (.fieldLink RX3 43 "BallPots$Plan" "groupsNamed" "I" : Cond) ∈ wsX5_readLines := rl_wsX5_readLines_r1 _ (List.mem_of_getElem? (i := 21) rfl)
theorem mw_X5_readLines__23 : (.methodLink RX5 44 yX5_step : Cond) ∈ wsX5_readLines := rl_wsX5_readLines_r1 _ (List.mem_of_getElem? (i := 22) rfl)
theorem mw_X5_readLines__24 : (.instanceMethod yX5_step : Cond) ∈ wsX5_readLines := rl_wsX5_readLines_r1 _ (List.mem_of_getElem? (i := 23) rfl)
theorem mw_X5_readLines__25 : (.selects RX5 yX5_step yX5_step : Cond) ∈ wsX5_readLines := rl_wsX5_readLines_r2 _ (List.mem_of_getElem? (i := 0) rfl)
theorem mw_X5_readLines__26 : (.initialized RX5 : Cond) ∈ wsX5_readLines := rl_wsX5_readLines_r2 _ (List.mem_of_getElem? (i := 1) rfl)
theorem mw_X5_readLines__27 : (.code yX5_step cX5_step 1 none : Cond) ∈ wsX5_readLines := rl_wsX5_readLines_r2 _ (List.mem_of_getElem? (i := 2) rfl)
theorem mw_X5_readLines__28 : (.fieldLink RX5 54 "BallPots$Reader" "start" "I" : Cond) ∈ wsX5_readLines := rl_wsX5_readLines_r2 _ (List.mem_of_getElem? (i := 3) rfl)
theorem mw_X5_readLines__29 : (.methodLink RX5 57 yX5_isBlank : Cond) ∈ wsX5_readLines := rl_wsX5_readLines_r2 _ (List.mem_of_getElem? (i := 4) rfl)
theorem mw_X5_readLines__30 : (.static yX5_isBlank : Cond) ∈ wsX5_readLines := rl_wsX5_readLines_r2 _ (List.mem_of_getElem? (i := 5) rfl)
theorem mw_X5_readLines__31 : (.code yX5_isBlank cX5_isBlank 1 (some .boolean) : Cond) ∈ wsX5_readLines := rl_wsX5_readLines_r2 _ (List.mem_of_getElem? (i := 6) rfl)
theorem mw_X5_readLines__32 : (.methodLink RX5 61 yX5_isLetter : Cond) ∈ wsX5_readLines := rl_wsX5_readLines_r2 _ (List.mem_of_getElem? (i := 7) rfl)
theorem mw_X5_readLines__33 : (.static yX5_isLetter : Cond) ∈ wsX5_readLines := rl_wsX5_readLines_r2 _ (List.mem_of_getElem? (i := 8) rfl)
theorem mw_X5_readLines__34 : (.code yX5_isLetter cX5_isLetter 1 (some .boolean) : Cond) ∈ wsX5_readLines := rl_wsX5_readLines_r2 _ (List.mem_of_getElem? (i := 9) rfl)
theorem mw_X5_readLines__35 : (.methodLink RX5 64 yX5_stepWord : Cond) ∈ wsX5_readLines := rl_wsX5_readLines_r2 _ (List.mem_of_getElem? (i := 10) rfl)
theorem mw_X5_readLines__36 : (.instanceMethod yX5_stepWord : Cond) ∈ wsX5_readLines := rl_wsX5_readLines_r2 _ (List.mem_of_getElem? (i := 11) rfl)
theorem mw_X5_readLines__37 : (.selects RX5 yX5_stepWord yX5_stepWord : Cond) ∈ wsX5_readLines := rl_wsX5_readLines_r2 _ (List.mem_of_getElem? (i := 12) rfl)
theorem mw_X5_readLines__38 : (.code yX5_stepWord cX5_stepWord 2 none : Cond) ∈ wsX5_readLines := rl_wsX5_readLines_r2 _ (List.mem_of_getElem? (i := 13) rfl)
theorem mw_X5_readLines__39 : (.fieldLink RX5 73 "BallPots$Reader" "value" "I" : Cond) ∈ wsX5_readLines := rl_wsX5_readLines_r2 _ (List.mem_of_getElem? (i := 14) rfl)
theorem mw_X5_readLines__40 : (.methodLink RX5 67 yX5_isDigit : Cond) ∈ wsX5_readLines := rl_wsX5_readLines_r2 _ (List.mem_of_getElem? (i := 15) rfl)
theorem mw_X5_readLines__41 : (.static yX5_isDigit : Cond) ∈ wsX5_readLines := rl_wsX5_readLines_r2 _ (List.mem_of_getElem? (i := 16) rfl)
theorem mw_X5_readLines__42 : (.code yX5_isDigit cX5_isDigit 1 (some .boolean) : Cond) ∈ wsX5_readLines := rl_wsX5_readLines_r2 _ (List.mem_of_getElem? (i := 17) rfl)
theorem mw_X5_readLines__43 : (.methodLink RX5 70 yX5_stepNumber : Cond) ∈ wsX5_readLines := rl_wsX5_readLines_r2 _ (List.mem_of_getElem? (i := 18) rfl)
theorem mw_X5_readLines__44 : (.instanceMethod yX5_stepNumber : Cond) ∈ wsX5_readLines := rl_wsX5_readLines_r2 _ (List.mem_of_getElem? (i := 19) rfl)
theorem mw_X5_readLines__45 : (.selects RX5 yX5_stepNumber yX5_stepNumber : Cond) ∈ wsX5_readLines := rl_wsX5_readLines_r2 _ (List.mem_of_getElem? (i := 20) rfl)
theorem mw_X5_readLines__46 : (.code yX5_stepNumber cX5_stepNumber 1 none : Cond) ∈ wsX5_readLines := rl_wsX5_readLines_r2 _ (List.mem_of_getElem? (i := 21) rfl)
theorem mw_X5_step__1 : (.fieldLink RX5 35 "BallPots$Reader" "at" "I" : Cond) ∈ wsX5_step := rl_wsX5_step_r1 _ (List.mem_of_getElem? (i := 0) rfl)
theorem mw_X5_step__2 : (.fieldLink RX5 32 "BallPots$Reader" "length" "I" : Cond) ∈ wsX5_step := rl_wsX5_step_r1 _ (List.mem_of_getElem? (i := 1) rfl)
theorem mw_X5_step__4 : (.fieldLink RX5 54 "BallPots$Reader" "start" "I" : Cond) ∈ wsX5_step := rl_wsX5_step_r1 _ (List.mem_of_getElem? (i := 3) rfl)
theorem mw_X5_step__5 : (.fieldLink RX5 47 "BallPots$Reader" "kind" "I" : Cond) ∈ wsX5_step := rl_wsX5_step_r1 _ (List.mem_of_getElem? (i := 4) rfl)
theorem mw_X6_beginAtStart__1 : (.fieldLink RX6 44 "BallPots$Reckoner" "firstLevel" "I" : Cond) ∈ wsX6_beginAtStart := List.mem_of_getElem? (i := 1) rfl
theorem mw_X6_beginAtStart__2 : (.fieldLink RX6 48 "BallPots$Reckoner" "firstPrefix" "I" : Cond) ∈ wsX6_beginAtStart := List.mem_of_getElem? (i := 2) rfl
theorem mw_X6_beginAtStart__3 : (.fieldLink RX6 30 "BallPots$Reckoner" "ranks" "LBallPots$Ranks;" : Cond) ∈ wsX6_beginAtStart := List.mem_of_getElem? (i := 3) rfl
theorem mw_X6_beginAtStart__4 : (.fieldLink RX6 56 "BallPots$Reckoner" "firstOpen" "I" : Cond) ∈ wsX6_beginAtStart := List.mem_of_getElem? (i := 4) rfl
theorem mw_X6_beginAtStart__5 : (.fieldLink RX6 25 "BallPots$Reckoner" "plan" "LBallPots$Plan;" : Cond) ∈ wsX6_beginAtStart := List.mem_of_getElem? (i := 5) rfl
theorem mw_X6_beginAtStart__6 : (.fieldLink RX6 64 "BallPots$Reckoner" "firstLeft" "I" : Cond) ∈ wsX6_beginAtStart := List.mem_of_getElem? (i := 6) rfl
theorem mw_X6_beginAtStart__7 : (.fieldLink RX6 40 "BallPots$Reckoner" "spread" "LBallPots$Spread;" : Cond) ∈ wsX6_beginAtStart := List.mem_of_getElem? (i := 7) rfl
theorem mw_X6_beginAtStart__8 : (.methodLink RX6 67 yX7_begin : Cond) ∈ wsX6_beginAtStart := List.mem_of_getElem? (i := 8) rfl
theorem mw_X6_beginAtStart__9 : (.instanceMethod yX7_begin : Cond) ∈ wsX6_beginAtStart := List.mem_of_getElem? (i := 9) rfl
theorem mw_X6_beginAtStart__10 : (.selects RX7 yX7_begin yX7_begin : Cond) ∈ wsX6_beginAtStart := List.mem_of_getElem? (i := 10) rfl
theorem mw_X6_beginAtStart__11 : (.initialized RX7 : Cond) ∈ wsX6_beginAtStart := List.mem_of_getElem? (i := 11) rfl
theorem mw_X6_beginAtStart__12 : (.code yX7_begin cX7_begin 3 none : Cond) ∈ wsX6_beginAtStart := List.mem_of_getElem? (i := 12) rfl
theorem mw_X6_beginAtStart__13 : (.fieldLink RX7 29 "BallPots$Spread" "way" "I" : Cond) ∈ wsX6_beginAtStart := List.mem_of_getElem? (i := 13) rfl
theorem mw_X6_beginAtStart__14 : (.fieldLink RX7 9 "BallPots$Spread" "groupAt" "[I" : Cond) ∈ wsX6_beginAtStart := List.mem_of_getElem? (i := 14) rfl
theorem mw_X6_beginAtStart__15 : (.methodLink RX7 33 arraycopyName : Cond) ∈ wsX6_beginAtStart := List.mem_of_getElem? (i := 15) rfl
theorem mw_X6_beginAtStart__16 : (.native arraycopyName : Cond) ∈ wsX6_beginAtStart := List.mem_of_getElem? (i := 16) rfl
theorem mw_X6_beginAtStart__17 : (.static arraycopyName : Cond) ∈ wsX6_beginAtStart := List.mem_of_getElem? (i := 17) rfl
theorem mw_X6_beginAtStart__18 : (.initialized "java/lang/System" : Cond) ∈ wsX6_beginAtStart := List.mem_of_getElem? (i := 18) rfl
theorem mw_X6_beginAtStart__19 : (.fieldLink RX7 19 "BallPots$Spread" "keys" "[I" : Cond) ∈ wsX6_beginAtStart := List.mem_of_getElem? (i := 19) rfl
theorem mw_X6_beginAtStart__20 : (.methodLink RX7 39 yJ7_fill_53178 : Cond) ∈ wsX6_beginAtStart := List.mem_of_getElem? (i := 20) rfl
theorem mw_X6_beginAtStart__21 : (.static yJ7_fill_53178 : Cond) ∈ wsX6_beginAtStart := List.mem_of_getElem? (i := 21) rfl
theorem mw_X6_beginAtStart__22 : (.initialized RJ7 : Cond) ∈ wsX6_beginAtStart := List.mem_of_getElem? (i := 22) rfl
theorem mw_X6_beginAtStart__23 : (.code yJ7_fill_53178 cJ7_fill_53178 4 none : Cond) ∈ wsX6_beginAtStart := List.mem_of_getElem? (i := 23) rfl
theorem mw_X6_init__1 : (.methodLink RX6 3 objectInit : Cond) ∈ wsX6_init := List.mem_of_getElem? (i := 1) rfl
theorem mw_X6_init__2 : (.instanceMethod objectInit : Cond) ∈ wsX6_init := List.mem_of_getElem? (i := 2) rfl
theorem mw_X6_init__3 : (.code objectInit ⟨#[0xb1]⟩ 1 none : Cond) ∈ wsX6_init := List.mem_of_getElem? (i := 3) rfl
theorem mw_X6_init__4 : (.arrayClass .int : Cond) ∈ wsX6_init := List.mem_of_getElem? (i := 4) rfl
theorem mw_X6_init__5 : (.fieldLink RX6 9 "BallPots$Reckoner" "rankAt" "[I" : Cond) ∈ wsX6_init := List.mem_of_getElem? (i := 5) rfl
theorem mw_X6_init__6 : (.arrayClass .long : Cond) ∈ wsX6_init := List.mem_of_getElem? (i := 6) rfl
theorem mw_X6_init__7 : (.fieldLink RX6 15 "BallPots$Reckoner" "rowsAt" "[J" : Cond) ∈ wsX6_init := List.mem_of_getElem? (i := 7) rfl
theorem mw_X6_init__8 : (.fieldLink RX6 25 "BallPots$Reckoner" "plan" "LBallPots$Plan;" : Cond) ∈ wsX6_init := List.mem_of_getElem? (i := 8) rfl
theorem mw_X6_init__9 : (.fieldLink RX6 30 "BallPots$Reckoner" "ranks" "LBallPots$Ranks;" : Cond) ∈ wsX6_init := List.mem_of_getElem? (i := 9) rfl
theorem mw_X6_init__10 : (.fieldLink RX6 31 "BallPots$Reckoner" "stage" "LBallPots$Stage;" : Cond) ∈ wsX6_init := List.mem_of_getElem? (i := 10) rfl
theorem mw_X6_init__11 : (.classLink RX6 35 RX7 : Cond) ∈ wsX6_init := List.mem_of_getElem? (i := 11) rfl
theorem mw_X6_init__12 : (.instantiable RX7 6 : Cond) ∈ wsX6_init := List.mem_of_getElem? (i := 12) rfl
theorem mw_X6_init__13 : (.initialized RX7 : Cond) ∈ wsX6_init := List.mem_of_getElem? (i := 13) rfl
theorem mw_X6_init__14 : (.fieldLink RX6 40 "BallPots$Reckoner" "spread" "LBallPots$Spread;" : Cond) ∈ wsX6_init := List.mem_of_getElem? (i := 14) rfl
theorem mw_X6_init__15 : (.methodLink RX6 37 yX7_init : Cond) ∈ wsX6_init := List.mem_of_getElem? (i := 15) rfl
theorem mw_X6_init__16 : (.instanceMethod yX7_init : Cond) ∈ wsX6_init := List.mem_of_getElem? (i := 16) rfl
theorem mw_X6_init__17 : (.code yX7_init cX7_init 2 none : Cond) ∈ wsX6_init := List.mem_of_getElem? (i := 17) rfl
theorem mw_X6_init__18 : (.methodLink RX7 3 objectInit : Cond) ∈ wsX6_init := List.mem_of_getElem? (i := 18) rfl
theorem mw_X6_init__19 : (.fieldLink RX7 9 "BallPots$Spread" "groupAt" "[I" : Cond) ∈ wsX6_init := List.mem_of_getElem? (i := 19) rfl
theorem mw_X6_init__20 : (.fieldLink RX7 15 "BallPots$Spread" "rows" "[J" : Cond) ∈ wsX6_init := List.mem_of_getElem? (i := 20) rfl
theorem mw_X6_init__21 : (.fieldLink RX7 19 "BallPots$Spread" "keys" "[I" : Cond) ∈ wsX6_init := List.mem_of_getElem? (i := 21) rfl
theorem mw_X6_init__22 : (.fieldLink RX7 22 "BallPots$Spread" "tables" "[J" : Cond) ∈ wsX6_init := List.mem_of_getElem? (i := 22) rfl
theorem mw_X6_init__23 : (.fieldLink RX7 25 "BallPots$Spread" "ranks" "LBallPots$Ranks;" : Cond) ∈ wsX6_init := List.mem_of_getElem? (i := 23) rfl
theorem mw_X6_reckon__1 : (.fieldLink RX6 44 "BallPots$Reckoner" "firstLevel" "I" : Cond) ∈ wsX6_reckon := rl_wsX6_reckon_r1 _ (List.mem_of_getElem? (i := 0) rfl)
theorem mw_X6_reckon__2 : (.fieldLink RX6 25 "BallPots$Reckoner" "plan" "LBallPots$Plan;" : Cond) ∈ wsX6_reckon := rl_wsX6_reckon_r1 _ (List.mem_of_getElem? (i := 1) rfl)
theorem mw_X6_reckon__4 : (.methodLink RX6 99 yX1_forget : Cond) ∈ wsX6_reckon := rl_wsX6_reckon_r1 _ (List.mem_of_getElem? (i := 3) rfl)
theorem mw_X6_reckon__5 : (.instanceMethod yX1_forget : Cond) ∈ wsX6_reckon := rl_wsX6_reckon_r1 _ (List.mem_of_getElem? (i := 4) rfl)
theorem mw_X6_reckon__6 : (.selects RX1 yX1_forget yX1_forget : Cond) ∈ wsX6_reckon := rl_wsX6_reckon_r1 _ (List.mem_of_getElem? (i := 5) rfl)
theorem mw_X6_reckon__7 : (.initialized RX1 : Cond) ∈ wsX6_reckon := rl_wsX6_reckon_r1 _ (List.mem_of_getElem? (i := 6) rfl)
theorem mw_X6_reckon__8 : (.code yX1_forget cX1_forget 1 none : Cond) ∈ wsX6_reckon := rl_wsX6_reckon_r1 _ (List.mem_of_getElem? (i := 7) rfl)
theorem mw_X6_reckon__9 : (.fieldLink RX1 9 "BallPots$Chances" "pairs" "[J" : Cond) ∈ wsX6_reckon := rl_wsX6_reckon_r1 _ (List.mem_of_getElem? (i := 8) rfl)
theorem mw_X6_reckon__10 : (.fieldLink RX1 15 "BallPots$Chances" "places" "[J" : Cond) ∈ wsX6_reckon := rl_wsX6_reckon_r1 _ (List.mem_of_getElem? (i := 9) rfl)
theorem mw_X6_reckon__11 : (.fieldLink RX1 24 "BallPots$Chances" "rows" "J" : Cond) ∈ wsX6_reckon := rl_wsX6_reckon_r1 _ (List.mem_of_getElem? (i := 10) rfl)
theorem mw_X6_reckon__12 : (.methodLink RX1 18 yJ7_fill_d0a16 : Cond) ∈ wsX6_reckon := rl_wsX6_reckon_r1 _ (List.mem_of_getElem? (i := 11) rfl)
theorem mw_X6_reckon__13 : (.static yJ7_fill_d0a16 : Cond) ∈ wsX6_reckon := rl_wsX6_reckon_r1 _ (List.mem_of_getElem? (i := 12) rfl)
theorem mw_X6_reckon__14 : (.initialized RJ7 : Cond) ∈ wsX6_reckon := rl_wsX6_reckon_r1 _ (List.mem_of_getElem? (i := 13) rfl)
theorem mw_X6_reckon__15 : (.code yJ7_fill_d0a16 cJ7_fill_d0a16 5 none : Cond) ∈ wsX6_reckon := rl_wsX6_reckon_r1 _ (List.mem_of_getElem? (i := 14) rfl)
theorem mw_X6_reckon__19 : (.initialized RX6 : Cond) ∈ wsX6_reckon := rl_wsX6_reckon_r1 _ (List.mem_of_getElem? (i := 18) rfl)
theorem mw_X6_reckon__29 : (.fieldLink RX6 30 "BallPots$Reckoner" "ranks" "LBallPots$Ranks;" : Cond) ∈ wsX6_reckon := rl_wsX6_reckon_r2 _ (List.mem_of_getElem? (i := 4) rfl)
theorem mw_X6_reckon__30 : (.fieldLink RX6 9 "BallPots$Reckoner" "rankAt" "[I" : Cond) ∈ wsX6_reckon := rl_wsX6_reckon_r2 _ (List.mem_of_getElem? (i := 5) rfl)
theorem mw_X6_reckon__115 : (.methodLink RX6 111 yX6_addAhead : Cond) ∈ wsX6_reckon := rl_wsX6_reckon_r5 _ (List.mem_of_getElem? (i := 18) rfl)
theorem mw_X6_reckon__116 : (.instanceMethod yX6_addAhead : Cond) ∈ wsX6_reckon := rl_wsX6_reckon_r5 _ (List.mem_of_getElem? (i := 19) rfl)
theorem mw_X6_reckon__117 : (.selects RX6 yX6_addAhead yX6_addAhead : Cond) ∈ wsX6_reckon := rl_wsX6_reckon_r5 _ (List.mem_of_getElem? (i := 20) rfl)
theorem mw_X6_reckon__118 : (.code yX6_addAhead cX6_addAhead 12 none : Cond) ∈ wsX6_reckon := rl_wsX6_reckon_r5 _ (List.mem_of_getElem? (i := 21) rfl)
theorem mw_X7_begin__1 : (.fieldLink RX7 29 "BallPots$Spread" "way" "I" : Cond) ∈ wsX7_begin := List.mem_of_getElem? (i := 1) rfl
theorem mw_X7_begin__2 : (.fieldLink RX7 9 "BallPots$Spread" "groupAt" "[I" : Cond) ∈ wsX7_begin := List.mem_of_getElem? (i := 2) rfl
theorem mw_X7_begin__3 : (.methodLink RX7 33 arraycopyName : Cond) ∈ wsX7_begin := List.mem_of_getElem? (i := 3) rfl
theorem mw_X7_begin__4 : (.native arraycopyName : Cond) ∈ wsX7_begin := List.mem_of_getElem? (i := 4) rfl
theorem mw_X7_begin__5 : (.static arraycopyName : Cond) ∈ wsX7_begin := List.mem_of_getElem? (i := 5) rfl
theorem mw_X7_begin__6 : (.initialized "java/lang/System" : Cond) ∈ wsX7_begin := List.mem_of_getElem? (i := 6) rfl
theorem mw_X7_begin__7 : (.fieldLink RX7 19 "BallPots$Spread" "keys" "[I" : Cond) ∈ wsX7_begin := List.mem_of_getElem? (i := 7) rfl
theorem mw_X7_begin__8 : (.methodLink RX7 39 yJ7_fill_53178 : Cond) ∈ wsX7_begin := List.mem_of_getElem? (i := 8) rfl
theorem mw_X7_begin__9 : (.static yJ7_fill_53178 : Cond) ∈ wsX7_begin := List.mem_of_getElem? (i := 9) rfl
theorem mw_X7_begin__10 : (.initialized RJ7 : Cond) ∈ wsX7_begin := List.mem_of_getElem? (i := 10) rfl
theorem mw_X7_begin__11 : (.code yJ7_fill_53178 cJ7_fill_53178 4 none : Cond) ∈ wsX7_begin := List.mem_of_getElem? (i := 11) rfl
theorem mw_X7_init__1 : (.methodLink RX7 3 objectInit : Cond) ∈ wsX7_init := List.mem_of_getElem? (i := 1) rfl
theorem mw_X7_init__2 : (.instanceMethod objectInit : Cond) ∈ wsX7_init := List.mem_of_getElem? (i := 2) rfl
theorem mw_X7_init__3 : (.code objectInit ⟨#[0xb1]⟩ 1 none : Cond) ∈ wsX7_init := List.mem_of_getElem? (i := 3) rfl
theorem mw_X7_init__4 : (.arrayClass .int : Cond) ∈ wsX7_init := List.mem_of_getElem? (i := 4) rfl
theorem mw_X7_init__5 : (.fieldLink RX7 9 "BallPots$Spread" "groupAt" "[I" : Cond) ∈ wsX7_init := List.mem_of_getElem? (i := 5) rfl
theorem mw_X7_init__6 : (.arrayClass .long : Cond) ∈ wsX7_init := List.mem_of_getElem? (i := 6) rfl
theorem mw_X7_init__7 : (.fieldLink RX7 15 "BallPots$Spread" "rows" "[J" : Cond) ∈ wsX7_init := List.mem_of_getElem? (i := 7) rfl
theorem mw_X7_init__8 : (.fieldLink RX7 19 "BallPots$Spread" "keys" "[I" : Cond) ∈ wsX7_init := List.mem_of_getElem? (i := 8) rfl
theorem mw_X7_init__9 : (.fieldLink RX7 22 "BallPots$Spread" "tables" "[J" : Cond) ∈ wsX7_init := List.mem_of_getElem? (i := 9) rfl
theorem mw_X7_init__10 : (.fieldLink RX7 25 "BallPots$Spread" "ranks" "LBallPots$Ranks;" : Cond) ∈ wsX7_init := List.mem_of_getElem? (i := 10) rfl
theorem mw_X8_empty__1 : (.fieldLink RX8 47 "BallPots$Stage" "out" "I" : Cond) ∈ wsX8_empty := List.mem_of_getElem? (i := 1) rfl
theorem mw_X8_empty__2 : (.fieldLink RX8 18 "BallPots$Stage" "groupOf" "[I" : Cond) ∈ wsX8_empty := List.mem_of_getElem? (i := 2) rfl
theorem mw_X8_empty__3 : (.methodLink RX8 51 yJ7_fill_53178 : Cond) ∈ wsX8_empty := List.mem_of_getElem? (i := 3) rfl
theorem mw_X8_empty__4 : (.static yJ7_fill_53178 : Cond) ∈ wsX8_empty := List.mem_of_getElem? (i := 4) rfl
theorem mw_X8_empty__5 : (.initialized RJ7 : Cond) ∈ wsX8_empty := List.mem_of_getElem? (i := 5) rfl
theorem mw_X8_empty__6 : (.code yJ7_fill_53178 cJ7_fill_53178 4 none : Cond) ∈ wsX8_empty := List.mem_of_getElem? (i := 6) rfl
theorem mw_X8_fullPots__1 : (.fieldLink RX8 27 "BallPots$Stage" "plan" "LBallPots$Plan;" : Cond) ∈ wsX8_fullPots := List.mem_of_getElem? (i := 1) rfl
theorem mw_X8_fullPots__2 : (.fieldLink RX8 47 "BallPots$Stage" "out" "I" : Cond) ∈ wsX8_fullPots := List.mem_of_getElem? (i := 2) rfl
theorem mw_X8_fullPots__3 : (.methodLink RX8 57 yX3_potOf : Cond) ∈ wsX8_fullPots := List.mem_of_getElem? (i := 3) rfl
theorem mw_X8_fullPots__4 : (.instanceMethod yX3_potOf : Cond) ∈ wsX8_fullPots := List.mem_of_getElem? (i := 4) rfl
theorem mw_X8_fullPots__5 : (.selects RX3 yX3_potOf yX3_potOf : Cond) ∈ wsX8_fullPots := List.mem_of_getElem? (i := 5) rfl
theorem mw_X8_fullPots__6 : (.initialized RX3 : Cond) ∈ wsX8_fullPots := List.mem_of_getElem? (i := 6) rfl
theorem mw_X8_fullPots__7 : (.code yX3_potOf cX3_potOf 2 (some .int) : Cond) ∈ wsX8_fullPots := List.mem_of_getElem? (i := 7) rfl
theorem mw_X8_fullPots__8 : (.fieldLink RX3 27 "BallPots$Plan" "groups" "I" : Cond) ∈ wsX8_fullPots := List.mem_of_getElem? (i := 8) rfl
theorem mw_X8_init__1 : (.methodLink RX8 3 objectInit : Cond) ∈ wsX8_init := List.mem_of_getElem? (i := 1) rfl
theorem mw_X8_init__2 : (.instanceMethod objectInit : Cond) ∈ wsX8_init := List.mem_of_getElem? (i := 2) rfl
theorem mw_X8_init__3 : (.code objectInit ⟨#[0xb1]⟩ 1 none : Cond) ∈ wsX8_init := List.mem_of_getElem? (i := 3) rfl
theorem mw_X8_init__4 : (.arrayClass .int : Cond) ∈ wsX8_init := List.mem_of_getElem? (i := 4) rfl
theorem mw_X8_init__5 : (.fieldLink RX8 9 "BallPots$Stage" "potAt" "[I" : Cond) ∈ wsX8_init := List.mem_of_getElem? (i := 5) rfl
theorem mw_X8_init__6 : (.fieldLink RX8 15 "BallPots$Stage" "groupAt" "[I" : Cond) ∈ wsX8_init := List.mem_of_getElem? (i := 6) rfl
theorem mw_X8_init__7 : (.fieldLink RX8 18 "BallPots$Stage" "groupOf" "[I" : Cond) ∈ wsX8_init := List.mem_of_getElem? (i := 7) rfl
theorem mw_X8_init__8 : (.fieldLink RX8 21 "BallPots$Stage" "balls" "[I" : Cond) ∈ wsX8_init := List.mem_of_getElem? (i := 8) rfl
theorem mw_X8_init__9 : (.fieldLink RX8 24 "BallPots$Stage" "allowed" "[I" : Cond) ∈ wsX8_init := List.mem_of_getElem? (i := 9) rfl
theorem mw_X8_init__10 : (.fieldLink RX8 27 "BallPots$Stage" "plan" "LBallPots$Plan;" : Cond) ∈ wsX8_init := List.mem_of_getElem? (i := 10) rfl
theorem mw_X8_init__11 : (.fieldLink RX8 31 "BallPots$Stage" "ranks" "LBallPots$Ranks;" : Cond) ∈ wsX8_init := List.mem_of_getElem? (i := 11) rfl
theorem mw_X8_putInTurn__1 : (.fieldLink RX8 9 "BallPots$Stage" "potAt" "[I" : Cond) ∈ wsX8_putInTurn := List.mem_of_getElem? (i := 1) rfl
theorem mw_X8_putInTurn__2 : (.methodLink RX8 38 arraycopyName : Cond) ∈ wsX8_putInTurn := List.mem_of_getElem? (i := 2) rfl
theorem mw_X8_putInTurn__3 : (.native arraycopyName : Cond) ∈ wsX8_putInTurn := List.mem_of_getElem? (i := 3) rfl
theorem mw_X8_putInTurn__4 : (.static arraycopyName : Cond) ∈ wsX8_putInTurn := List.mem_of_getElem? (i := 4) rfl
theorem mw_X8_putInTurn__5 : (.initialized "java/lang/System" : Cond) ∈ wsX8_putInTurn := List.mem_of_getElem? (i := 5) rfl
theorem mw_X8_putInTurn__6 : (.fieldLink RX8 15 "BallPots$Stage" "groupAt" "[I" : Cond) ∈ wsX8_putInTurn := List.mem_of_getElem? (i := 6) rfl
theorem mw_X8_putInTurn__7 : (.methodLink RX8 44 yX8_empty : Cond) ∈ wsX8_putInTurn := List.mem_of_getElem? (i := 7) rfl
theorem mw_X8_putInTurn__8 : (.instanceMethod yX8_empty : Cond) ∈ wsX8_putInTurn := List.mem_of_getElem? (i := 8) rfl
theorem mw_X8_putInTurn__9 : (.selects RX8 yX8_empty yX8_empty : Cond) ∈ wsX8_putInTurn := List.mem_of_getElem? (i := 9) rfl
theorem mw_X8_putInTurn__10 : (.initialized RX8 : Cond) ∈ wsX8_putInTurn := List.mem_of_getElem? (i := 10) rfl
theorem mw_X8_putInTurn__11 : (.code yX8_empty cX8_empty 1 none : Cond) ∈ wsX8_putInTurn := List.mem_of_getElem? (i := 11) rfl
theorem mw_X8_putInTurn__12 : (.fieldLink RX8 47 "BallPots$Stage" "out" "I" : Cond) ∈ wsX8_putInTurn := List.mem_of_getElem? (i := 12) rfl
theorem mw_X8_putInTurn__13 : (.fieldLink RX8 18 "BallPots$Stage" "groupOf" "[I" : Cond) ∈ wsX8_putInTurn := List.mem_of_getElem? (i := 13) rfl
theorem mw_X8_putInTurn__14 : (.methodLink RX8 51 yJ7_fill_53178 : Cond) ∈ wsX8_putInTurn := List.mem_of_getElem? (i := 14) rfl
theorem mw_X8_putInTurn__15 : (.static yJ7_fill_53178 : Cond) ∈ wsX8_putInTurn := List.mem_of_getElem? (i := 15) rfl
theorem mw_X8_putInTurn__16 : (.initialized RJ7 : Cond) ∈ wsX8_putInTurn := List.mem_of_getElem? (i := 16) rfl
theorem mw_X8_putInTurn__17 : (.code yJ7_fill_53178 cJ7_fill_53178 4 none : Cond) ∈ wsX8_putInTurn := List.mem_of_getElem? (i := 17) rfl
theorem mw_X8_reason__1 : (.fieldLink RX8 47 "BallPots$Stage" "out" "I" : Cond) ∈ wsX8_reason := List.mem_of_getElem? (i := 1) rfl
theorem mw_X8_rowsLeft__1 : (.fieldLink RX8 27 "BallPots$Stage" "plan" "LBallPots$Plan;" : Cond) ∈ wsX8_rowsLeft := List.mem_of_getElem? (i := 1) rfl
theorem mw_X8_rowsLeft__2 : (.methodLink RX8 69 yX8_fullPots : Cond) ∈ wsX8_rowsLeft := List.mem_of_getElem? (i := 2) rfl
theorem mw_X8_rowsLeft__3 : (.instanceMethod yX8_fullPots : Cond) ∈ wsX8_rowsLeft := List.mem_of_getElem? (i := 3) rfl
theorem mw_X8_rowsLeft__4 : (.selects RX8 yX8_fullPots yX8_fullPots : Cond) ∈ wsX8_rowsLeft := List.mem_of_getElem? (i := 4) rfl
theorem mw_X8_rowsLeft__5 : (.initialized RX8 : Cond) ∈ wsX8_rowsLeft := List.mem_of_getElem? (i := 5) rfl
theorem mw_X8_rowsLeft__6 : (.code yX8_fullPots cX8_fullPots 1 (some .int) : Cond) ∈ wsX8_rowsLeft := List.mem_of_getElem? (i := 6) rfl
theorem mw_X8_rowsLeft__7 : (.fieldLink RX8 47 "BallPots$Stage" "out" "I" : Cond) ∈ wsX8_rowsLeft := List.mem_of_getElem? (i := 7) rfl
theorem mw_X8_rowsLeft__8 : (.methodLink RX8 57 yX3_potOf : Cond) ∈ wsX8_rowsLeft := List.mem_of_getElem? (i := 8) rfl
theorem mw_X8_rowsLeft__9 : (.instanceMethod yX3_potOf : Cond) ∈ wsX8_rowsLeft := List.mem_of_getElem? (i := 9) rfl
theorem mw_X8_rowsLeft__10 : (.selects RX3 yX3_potOf yX3_potOf : Cond) ∈ wsX8_rowsLeft := List.mem_of_getElem? (i := 10) rfl
theorem mw_X8_rowsLeft__11 : (.initialized RX3 : Cond) ∈ wsX8_rowsLeft := List.mem_of_getElem? (i := 11) rfl
theorem mw_X8_rowsLeft__12 : (.code yX3_potOf cX3_potOf 2 (some .int) : Cond) ∈ wsX8_rowsLeft := List.mem_of_getElem? (i := 12) rfl
theorem mw_X8_rowsLeft__13 : (.fieldLink RX3 27 "BallPots$Plan" "groups" "I" : Cond) ∈ wsX8_rowsLeft := List.mem_of_getElem? (i := 13) rfl
theorem mw_X9_allRows__1 : (.fieldLink RX9 22 "BallPots$Swaps" "draws" "LBallPots$Draws;" : Cond) ∈ wsX9_allRows := List.mem_of_getElem? (i := 1) rfl
theorem mw_X9_allRows__2 : (.fieldLink RX9 32 "BallPots$Swaps" "ranks" "LBallPots$Ranks;" : Cond) ∈ wsX9_allRows := List.mem_of_getElem? (i := 2) rfl
theorem mw_X9_clearRows__1 : (.fieldLink RX9 9 "BallPots$Swaps" "rows" "[I" : Cond) ∈ wsX9_clearRows := List.mem_of_getElem? (i := 1) rfl
theorem mw_X9_clearRows__2 : (.fieldLink RX9 22 "BallPots$Swaps" "draws" "LBallPots$Draws;" : Cond) ∈ wsX9_clearRows := List.mem_of_getElem? (i := 2) rfl
theorem mw_X9_clearRows__5 : (.fieldLink RX9 18 "BallPots$Swaps" "done" "I" : Cond) ∈ wsX9_clearRows := List.mem_of_getElem? (i := 5) rfl
theorem mw_X9_clearRows__6 : (.methodLink RX9 52 yJ7_fill_fda19 : Cond) ∈ wsX9_clearRows := List.mem_of_getElem? (i := 6) rfl
theorem mw_X9_clearRows__7 : (.static yJ7_fill_fda19 : Cond) ∈ wsX9_clearRows := List.mem_of_getElem? (i := 7) rfl
theorem mw_X9_clearRows__8 : (.initialized RJ7 : Cond) ∈ wsX9_clearRows := List.mem_of_getElem? (i := 8) rfl
theorem mw_X9_clearRows__9 : (.code yJ7_fill_fda19 cJ7_fill_fda19 5 none : Cond) ∈ wsX9_clearRows := List.mem_of_getElem? (i := 9) rfl
theorem mw_X9_clearRows__10 : (.methodLink RJ7 13 yJ7_rangeCheck_23922 : Cond) ∈ wsX9_clearRows := List.mem_of_getElem? (i := 10) rfl
theorem mw_X9_clearRows__11 : (.static yJ7_rangeCheck_23922 : Cond) ∈ wsX9_clearRows := List.mem_of_getElem? (i := 11) rfl
theorem mw_X9_clearRows__12 : (.code yJ7_rangeCheck_23922 cJ7_rangeCheck_23922 3 none : Cond) ∈ wsX9_clearRows := List.mem_of_getElem? (i := 12) rfl
theorem mw_X9_clearRows__13 : (.classLink RJ7 68 RJx00060 : Cond) ∈ wsX9_clearRows := List.mem_of_getElem? (i := 13) rfl
theorem mw_X9_clearRows__14 : (.instantiable RJx00060 6 : Cond) ∈ wsX9_clearRows := List.mem_of_getElem? (i := 14) rfl
theorem mw_X9_clearRows__15 : (.initialized RJx00060 : Cond) ∈ wsX9_clearRows := List.mem_of_getElem? (i := 15) rfl
theorem mw_X9_findParts__1 : (.fieldLink RX9 33 "BallPots$Swaps" "partsFresh" "Z" : Cond) ∈ wsX9_findParts := rl_wsX9_findParts_r1 _ (List.mem_of_getElem? (i := 0) rfl)
theorem mw_X9_findParts__2 : (.fieldLink RX9 40 "BallPots$Swaps" "manyParts" "I" : Cond) ∈ wsX9_findParts := rl_wsX9_findParts_r1 _ (List.mem_of_getElem? (i := 1) rfl)
theorem mw_X9_findParts__3 : (.fieldLink RX9 43 "BallPots$Swaps" "firstPart" "I" : Cond) ∈ wsX9_findParts := rl_wsX9_findParts_r1 _ (List.mem_of_getElem? (i := 2) rfl)
theorem mw_X9_findParts__4 : (.fieldLink RX9 46 "BallPots$Swaps" "greatestPart" "I" : Cond) ∈ wsX9_findParts := rl_wsX9_findParts_r1 _ (List.mem_of_getElem? (i := 3) rfl)
theorem mw_X9_findParts__5 : (.fieldLink RX9 61 "BallPots$Swaps" "queued" "I" : Cond) ∈ wsX9_findParts := rl_wsX9_findParts_r1 _ (List.mem_of_getElem? (i := 4) rfl)
theorem mw_X9_findParts__6 : (.fieldLink RX9 22 "BallPots$Swaps" "draws" "LBallPots$Draws;" : Cond) ∈ wsX9_findParts := rl_wsX9_findParts_r1 _ (List.mem_of_getElem? (i := 5) rfl)
theorem mw_X9_findParts__7 : (.fieldLink RX9 9 "BallPots$Swaps" "rows" "[I" : Cond) ∈ wsX9_findParts := rl_wsX9_findParts_r1 _ (List.mem_of_getElem? (i := 6) rfl)
theorem mw_X9_findParts__8 : (.methodLink RX9 74 Lib.Math.max.name : Cond) ∈ wsX9_findParts := rl_wsX9_findParts_r1 _ (List.mem_of_getElem? (i := 7) rfl)
theorem mw_X9_findParts__9 : (.static Lib.Math.max.name : Cond) ∈ wsX9_findParts := rl_wsX9_findParts_r1 _ (List.mem_of_getElem? (i := 8) rfl)
theorem mw_X9_findParts__10 : (.initialized "java/lang/Math" : Cond) ∈ wsX9_findParts := rl_wsX9_findParts_r1 _ (List.mem_of_getElem? (i := 9) rfl)
theorem mw_X9_findParts__11 : (.code Lib.Math.max.name Lib.Math.max.code 2 (some .int) : Cond) ∈ wsX9_findParts := rl_wsX9_findParts_r1 _ (List.mem_of_getElem? (i := 10) rfl)
theorem mw_X9_findParts__12 : (.methodLink RX9 58 yX9_clearRows : Cond) ∈ wsX9_findParts := rl_wsX9_findParts_r1 _ (List.mem_of_getElem? (i := 11) rfl)
theorem mw_X9_findParts__13 : (.instanceMethod yX9_clearRows : Cond) ∈ wsX9_findParts := rl_wsX9_findParts_r1 _ (List.mem_of_getElem? (i := 12) rfl)
theorem mw_X9_findParts__14 : (.selects RX9 yX9_clearRows yX9_clearRows : Cond) ∈ wsX9_findParts := rl_wsX9_findParts_r1 _ (List.mem_of_getElem? (i := 13) rfl)
theorem mw_X9_findParts__15 : (.initialized RX9 : Cond) ∈ wsX9_findParts := rl_wsX9_findParts_r1 _ (List.mem_of_getElem? (i := 14) rfl)
theorem mw_X9_findParts__16 : (.code yX9_clearRows cX9_clearRows 1 none : Cond) ∈ wsX9_findParts := rl_wsX9_findParts_r1 _ (List.mem_of_getElem? (i := 15) rfl)
theorem mw_X9_findParts__17 : (.arrayClass .int : Cond) ∈ wsX9_findParts := rl_wsX9_findParts_r1 _ (List.mem_of_getElem? (i := 16) rfl)
theorem mw_X9_findParts__18 : (.fieldLink RX9 15 "BallPots$Swaps" "other" "[I" : Cond) ∈ wsX9_findParts := rl_wsX9_findParts_r1 _ (List.mem_of_getElem? (i := 17) rfl)
theorem mw_X9_findParts__19 : (.fieldLink RX9 18 "BallPots$Swaps" "done" "I" : Cond) ∈ wsX9_findParts := rl_wsX9_findParts_r1 _ (List.mem_of_getElem? (i := 18) rfl)
theorem mw_X9_findParts__20 : (.methodLink RX9 52 yJ7_fill_fda19 : Cond) ∈ wsX9_findParts := rl_wsX9_findParts_r1 _ (List.mem_of_getElem? (i := 19) rfl)
theorem mw_X9_findParts__21 : (.static yJ7_fill_fda19 : Cond) ∈ wsX9_findParts := rl_wsX9_findParts_r1 _ (List.mem_of_getElem? (i := 20) rfl)
theorem mw_X9_findParts__22 : (.initialized RJ7 : Cond) ∈ wsX9_findParts := rl_wsX9_findParts_r1 _ (List.mem_of_getElem? (i := 21) rfl)
theorem mw_X9_findParts__23 : (.code yJ7_fill_fda19 cJ7_fill_fda19 5 none : Cond) ∈ wsX9_findParts := rl_wsX9_findParts_r1 _ (List.mem_of_getElem? (i := 22) rfl)
theorem mw_X9_findParts__24 : (.methodLink RJ7 13 yJ7_rangeCheck_23922 : Cond) ∈ wsX9_findParts := rl_wsX9_findParts_r1 _ (List.mem_of_getElem? (i := 23) rfl)
theorem mw_X9_findParts__25 : (.static yJ7_rangeCheck_23922 : Cond) ∈ wsX9_findParts := rl_wsX9_findParts_r2 _ (List.mem_of_getElem? (i := 0) rfl)
theorem mw_X9_findParts__26 : (.code yJ7_rangeCheck_23922 cJ7_rangeCheck_23922 3 none : Cond) ∈ wsX9_findParts := rl_wsX9_findParts_r2 _ (List.mem_of_getElem? (i := 1) rfl)
theorem mw_X9_findParts__27 : (.classLink RJ7 68 RJx00060 : Cond) ∈ wsX9_findParts := rl_wsX9_findParts_r2 _ (List.mem_of_getElem? (i := 2) rfl)
theorem mw_X9_findParts__28 : (.instantiable RJx00060 6 : Cond) ∈ wsX9_findParts := rl_wsX9_findParts_r2 _ (List.mem_of_getElem? (i := 3) rfl)
theorem mw_X9_findParts__29 : (.initialized RJx00060 : Cond) ∈ wsX9_findParts := rl_wsX9_findParts_r2 _ (List.mem_of_getElem? (i := 4) rfl)
theorem mw_X9_findParts__30 : (.methodLink RX9 70 yX9_sizeOfPart : Cond) ∈ wsX9_findParts := rl_wsX9_findParts_r2 _ (List.mem_of_getElem? (i := 5) rfl)
theorem mw_X9_findParts__31 : (.instanceMethod yX9_sizeOfPart : Cond) ∈ wsX9_findParts := rl_wsX9_findParts_r2 _ (List.mem_of_getElem? (i := 6) rfl)
theorem mw_X9_findParts__32 : (.selects RX9 yX9_sizeOfPart yX9_sizeOfPart : Cond) ∈ wsX9_findParts := rl_wsX9_findParts_r2 _ (List.mem_of_getElem? (i := 7) rfl)
theorem mw_X9_findParts__33 : (.code yX9_sizeOfPart cX9_sizeOfPart 4 (some .int) : Cond) ∈ wsX9_findParts := rl_wsX9_findParts_r2 _ (List.mem_of_getElem? (i := 8) rfl)
theorem mw_X9_findParts__34 : (.methodLink RX9 80 yX9_meet : Cond) ∈ wsX9_findParts := rl_wsX9_findParts_r2 _ (List.mem_of_getElem? (i := 9) rfl)
theorem mw_X9_findParts__35 : (.instanceMethod yX9_meet : Cond) ∈ wsX9_findParts := rl_wsX9_findParts_r2 _ (List.mem_of_getElem? (i := 10) rfl)
theorem mw_X9_findParts__36 : (.selects RX9 yX9_meet yX9_meet : Cond) ∈ wsX9_findParts := rl_wsX9_findParts_r2 _ (List.mem_of_getElem? (i := 11) rfl)
theorem mw_X9_findParts__37 : (.code yX9_meet cX9_meet 2 none : Cond) ∈ wsX9_findParts := rl_wsX9_findParts_r2 _ (List.mem_of_getElem? (i := 12) rfl)
theorem mw_X9_findParts__38 : (.methodLink RX9 84 yX9_meetSwapped : Cond) ∈ wsX9_findParts := rl_wsX9_findParts_r2 _ (List.mem_of_getElem? (i := 13) rfl)
theorem mw_X9_findParts__39 : (.instanceMethod yX9_meetSwapped : Cond) ∈ wsX9_findParts := rl_wsX9_findParts_r2 _ (List.mem_of_getElem? (i := 14) rfl)
theorem mw_X9_findParts__40 : (.selects RX9 yX9_meetSwapped yX9_meetSwapped : Cond) ∈ wsX9_findParts := rl_wsX9_findParts_r2 _ (List.mem_of_getElem? (i := 15) rfl)
theorem mw_X9_findParts__41 : (.code yX9_meetSwapped cX9_meetSwapped 8 none : Cond) ∈ wsX9_findParts := rl_wsX9_findParts_r2 _ (List.mem_of_getElem? (i := 16) rfl)
theorem mw_X9_findParts__42 : (.fieldLink RX9 32 "BallPots$Swaps" "ranks" "LBallPots$Ranks;" : Cond) ∈ wsX9_findParts := rl_wsX9_findParts_r2 _ (List.mem_of_getElem? (i := 17) rfl)
theorem mw_X9_findParts__43 : (.methodLink RX9 99 yX2_rankIn : Cond) ∈ wsX9_findParts := rl_wsX9_findParts_r2 _ (List.mem_of_getElem? (i := 18) rfl)
theorem mw_X9_findParts__44 : (.instanceMethod yX2_rankIn : Cond) ∈ wsX9_findParts := rl_wsX9_findParts_r2 _ (List.mem_of_getElem? (i := 19) rfl)
theorem mw_X9_findParts__45 : (.selects RX2 yX2_rankIn yX2_rankIn : Cond) ∈ wsX9_findParts := rl_wsX9_findParts_r2 _ (List.mem_of_getElem? (i := 20) rfl)
theorem mw_X9_findParts__46 : (.initialized RX2 : Cond) ∈ wsX9_findParts := rl_wsX9_findParts_r2 _ (List.mem_of_getElem? (i := 21) rfl)
theorem mw_X9_findParts__47 : (.code yX2_rankIn cX2_rankIn 5 (some .int) : Cond) ∈ wsX9_findParts := rl_wsX9_findParts_r2 _ (List.mem_of_getElem? (i := 22) rfl)
theorem mw_X9_findParts__48 : (.fieldLink RX2 9 "BallPots$Draws" "step" "[I" : Cond) ∈ wsX9_findParts := rl_wsX9_findParts_r2 _ (List.mem_of_getElem? (i := 23) rfl)
theorem mw_X9_findParts__49 : (.fieldLink RX2 34 "BallPots$Draws" "ranks" "LBallPots$Ranks;" : Cond) ∈ wsX9_findParts := rl_wsX9_findParts_r3 _ (List.mem_of_getElem? (i := 0) rfl)
theorem mw_X9_forget__1 : (.fieldLink RX9 18 "BallPots$Swaps" "done" "I" : Cond) ∈ wsX9_forget := List.mem_of_getElem? (i := 1) rfl
theorem mw_X9_forget__2 : (.fieldLink RX9 33 "BallPots$Swaps" "partsFresh" "Z" : Cond) ∈ wsX9_forget := List.mem_of_getElem? (i := 2) rfl
theorem mw_X9_howManyParts__1 : (.fieldLink RX9 40 "BallPots$Swaps" "manyParts" "I" : Cond) ∈ wsX9_howManyParts := rl_wsX9_howManyParts_r1 _ (List.mem_of_getElem? (i := 0) rfl)
theorem mw_X9_howManyParts__2 : (.methodLink RX9 37 yX9_findParts : Cond) ∈ wsX9_howManyParts := rl_wsX9_howManyParts_r1 _ (List.mem_of_getElem? (i := 1) rfl)
theorem mw_X9_howManyParts__3 : (.instanceMethod yX9_findParts : Cond) ∈ wsX9_howManyParts := rl_wsX9_howManyParts_r1 _ (List.mem_of_getElem? (i := 2) rfl)
theorem mw_X9_howManyParts__4 : (.selects RX9 yX9_findParts yX9_findParts : Cond) ∈ wsX9_howManyParts := rl_wsX9_howManyParts_r1 _ (List.mem_of_getElem? (i := 3) rfl)
theorem mw_X9_howManyParts__5 : (.initialized RX9 : Cond) ∈ wsX9_howManyParts := rl_wsX9_howManyParts_r1 _ (List.mem_of_getElem? (i := 4) rfl)
theorem mw_X9_howManyParts__6 : (.code yX9_findParts cX9_findParts 3 none : Cond) ∈ wsX9_howManyParts := rl_wsX9_howManyParts_r1 _ (List.mem_of_getElem? (i := 5) rfl)
theorem mw_X9_howManyParts__7 : (.fieldLink RX9 33 "BallPots$Swaps" "partsFresh" "Z" : Cond) ∈ wsX9_howManyParts := rl_wsX9_howManyParts_r1 _ (List.mem_of_getElem? (i := 6) rfl)
theorem mw_X9_howManyParts__8 : (.fieldLink RX9 43 "BallPots$Swaps" "firstPart" "I" : Cond) ∈ wsX9_howManyParts := rl_wsX9_howManyParts_r1 _ (List.mem_of_getElem? (i := 7) rfl)
theorem mw_X9_howManyParts__9 : (.fieldLink RX9 46 "BallPots$Swaps" "greatestPart" "I" : Cond) ∈ wsX9_howManyParts := rl_wsX9_howManyParts_r1 _ (List.mem_of_getElem? (i := 8) rfl)
theorem mw_X9_howManyParts__10 : (.fieldLink RX9 61 "BallPots$Swaps" "queued" "I" : Cond) ∈ wsX9_howManyParts := rl_wsX9_howManyParts_r1 _ (List.mem_of_getElem? (i := 9) rfl)
theorem mw_X9_howManyParts__11 : (.fieldLink RX9 22 "BallPots$Swaps" "draws" "LBallPots$Draws;" : Cond) ∈ wsX9_howManyParts := rl_wsX9_howManyParts_r1 _ (List.mem_of_getElem? (i := 10) rfl)
theorem mw_X9_howManyParts__12 : (.fieldLink RX9 9 "BallPots$Swaps" "rows" "[I" : Cond) ∈ wsX9_howManyParts := rl_wsX9_howManyParts_r1 _ (List.mem_of_getElem? (i := 11) rfl)
theorem mw_X9_howManyParts__13 : (.methodLink RX9 74 Lib.Math.max.name : Cond) ∈ wsX9_howManyParts := rl_wsX9_howManyParts_r1 _ (List.mem_of_getElem? (i := 12) rfl)
theorem mw_X9_howManyParts__14 : (.static Lib.Math.max.name : Cond) ∈ wsX9_howManyParts := rl_wsX9_howManyParts_r1 _ (List.mem_of_getElem? (i := 13) rfl)
theorem mw_X9_howManyParts__15 : (.initialized "java/lang/Math" : Cond) ∈ wsX9_howManyParts := rl_wsX9_howManyParts_r1 _ (List.mem_of_getElem? (i := 14) rfl)
theorem mw_X9_howManyParts__16 : (.code Lib.Math.max.name Lib.Math.max.code 2 (some .int) : Cond) ∈ wsX9_howManyParts := rl_wsX9_howManyParts_r1 _ (List.mem_of_getElem? (i := 15) rfl)
theorem mw_X9_howManyParts__17 : (.methodLink RX9 58 yX9_clearRows : Cond) ∈ wsX9_howManyParts := rl_wsX9_howManyParts_r1 _ (List.mem_of_getElem? (i := 16) rfl)
theorem mw_X9_howManyParts__18 : (.instanceMethod yX9_clearRows : Cond) ∈ wsX9_howManyParts := rl_wsX9_howManyParts_r1 _ (List.mem_of_getElem? (i := 17) rfl)
theorem mw_X9_howManyParts__19 : (.selects RX9 yX9_clearRows yX9_clearRows : Cond) ∈ wsX9_howManyParts := rl_wsX9_howManyParts_r1 _ (List.mem_of_getElem? (i := 18) rfl)
theorem mw_X9_howManyParts__20 : (.code yX9_clearRows cX9_clearRows 1 none : Cond) ∈ wsX9_howManyParts := rl_wsX9_howManyParts_r1 _ (List.mem_of_getElem? (i := 19) rfl)
theorem mw_X9_howManyParts__21 : (.arrayClass .int : Cond) ∈ wsX9_howManyParts := rl_wsX9_howManyParts_r1 _ (List.mem_of_getElem? (i := 20) rfl)
theorem mw_X9_howManyParts__22 : (.fieldLink RX9 15 "BallPots$Swaps" "other" "[I" : Cond) ∈ wsX9_howManyParts := rl_wsX9_howManyParts_r1 _ (List.mem_of_getElem? (i := 21) rfl)
theorem mw_X9_howManyParts__23 : (.fieldLink RX9 18 "BallPots$Swaps" "done" "I" : Cond) ∈ wsX9_howManyParts := rl_wsX9_howManyParts_r1 _ (List.mem_of_getElem? (i := 22) rfl)
theorem mw_X9_howManyParts__24 : (.methodLink RX9 52 yJ7_fill_fda19 : Cond) ∈ wsX9_howManyParts := rl_wsX9_howManyParts_r1 _ (List.mem_of_getElem? (i := 23) rfl)
theorem mw_X9_howManyParts__25 : (.static yJ7_fill_fda19 : Cond) ∈ wsX9_howManyParts := rl_wsX9_howManyParts_r2 _ (List.mem_of_getElem? (i := 0) rfl)
theorem mw_X9_howManyParts__26 : (.initialized RJ7 : Cond) ∈ wsX9_howManyParts := rl_wsX9_howManyParts_r2 _ (List.mem_of_getElem? (i := 1) rfl)
theorem mw_X9_howManyParts__27 : (.code yJ7_fill_fda19 cJ7_fill_fda19 5 none : Cond) ∈ wsX9_howManyParts := rl_wsX9_howManyParts_r2 _ (List.mem_of_getElem? (i := 2) rfl)
theorem mw_X9_howManyParts__28 : (.methodLink RJ7 13 yJ7_rangeCheck_23922 : Cond) ∈ wsX9_howManyParts := rl_wsX9_howManyParts_r2 _ (List.mem_of_getElem? (i := 3) rfl)
theorem mw_X9_howManyParts__29 : (.static yJ7_rangeCheck_23922 : Cond) ∈ wsX9_howManyParts := rl_wsX9_howManyParts_r2 _ (List.mem_of_getElem? (i := 4) rfl)
theorem mw_X9_howManyParts__30 : (.code yJ7_rangeCheck_23922 cJ7_rangeCheck_23922 3 none : Cond) ∈ wsX9_howManyParts := rl_wsX9_howManyParts_r2 _ (List.mem_of_getElem? (i := 5) rfl)
theorem mw_X9_howManyParts__31 : (.classLink RJ7 68 RJx00060 : Cond) ∈ wsX9_howManyParts := rl_wsX9_howManyParts_r2 _ (List.mem_of_getElem? (i := 6) rfl)
theorem mw_X9_howManyParts__32 : (.instantiable RJx00060 6 : Cond) ∈ wsX9_howManyParts := rl_wsX9_howManyParts_r2 _ (List.mem_of_getElem? (i := 7) rfl)
theorem mw_X9_howManyParts__33 : (.initialized RJx00060 : Cond) ∈ wsX9_howManyParts := rl_wsX9_howManyParts_r2 _ (List.mem_of_getElem? (i := 8) rfl)
theorem mw_X9_howManyParts__34 : (.methodLink RX9 70 yX9_sizeOfPart : Cond) ∈ wsX9_howManyParts := rl_wsX9_howManyParts_r2 _ (List.mem_of_getElem? (i := 9) rfl)
theorem mw_X9_howManyParts__35 : (.instanceMethod yX9_sizeOfPart : Cond) ∈ wsX9_howManyParts := rl_wsX9_howManyParts_r2 _ (List.mem_of_getElem? (i := 10) rfl)
theorem mw_X9_howManyParts__36 : (.selects RX9 yX9_sizeOfPart yX9_sizeOfPart : Cond) ∈ wsX9_howManyParts := rl_wsX9_howManyParts_r2 _ (List.mem_of_getElem? (i := 11) rfl)
theorem mw_X9_howManyParts__37 : (.code yX9_sizeOfPart cX9_sizeOfPart 4 (some .int) : Cond) ∈ wsX9_howManyParts := rl_wsX9_howManyParts_r2 _ (List.mem_of_getElem? (i := 12) rfl)
theorem mw_X9_howManyParts__38 : (.methodLink RX9 80 yX9_meet : Cond) ∈ wsX9_howManyParts := rl_wsX9_howManyParts_r2 _ (List.mem_of_getElem? (i := 13) rfl)
theorem mw_X9_howManyParts__39 : (.instanceMethod yX9_meet : Cond) ∈ wsX9_howManyParts := rl_wsX9_howManyParts_r2 _ (List.mem_of_getElem? (i := 14) rfl)
theorem mw_X9_howManyParts__40 : (.selects RX9 yX9_meet yX9_meet : Cond) ∈ wsX9_howManyParts := rl_wsX9_howManyParts_r2 _ (List.mem_of_getElem? (i := 15) rfl)
theorem mw_X9_howManyParts__41 : (.code yX9_meet cX9_meet 2 none : Cond) ∈ wsX9_howManyParts := rl_wsX9_howManyParts_r2 _ (List.mem_of_getElem? (i := 16) rfl)
theorem mw_X9_howManyParts__42 : (.methodLink RX9 84 yX9_meetSwapped : Cond) ∈ wsX9_howManyParts := rl_wsX9_howManyParts_r2 _ (List.mem_of_getElem? (i := 17) rfl)
theorem mw_X9_howManyParts__43 : (.instanceMethod yX9_meetSwapped : Cond) ∈ wsX9_howManyParts := rl_wsX9_howManyParts_r2 _ (List.mem_of_getElem? (i := 18) rfl)
theorem mw_X9_howManyParts__44 : (.selects RX9 yX9_meetSwapped yX9_meetSwapped : Cond) ∈ wsX9_howManyParts := rl_wsX9_howManyParts_r2 _ (List.mem_of_getElem? (i := 19) rfl)
theorem mw_X9_howManyParts__45 : (.code yX9_meetSwapped cX9_meetSwapped 8 none : Cond) ∈ wsX9_howManyParts := rl_wsX9_howManyParts_r2 _ (List.mem_of_getElem? (i := 20) rfl)
theorem mw_X9_howManyParts__46 : (.fieldLink RX9 32 "BallPots$Swaps" "ranks" "LBallPots$Ranks;" : Cond) ∈ wsX9_howManyParts := rl_wsX9_howManyParts_r2 _ (List.mem_of_getElem? (i := 21) rfl)
theorem mw_X9_howManyParts__47 : (.methodLink RX9 99 yX2_rankIn : Cond) ∈ wsX9_howManyParts := rl_wsX9_howManyParts_r2 _ (List.mem_of_getElem? (i := 22) rfl)
theorem mw_X9_howManyParts__48 : (.instanceMethod yX2_rankIn : Cond) ∈ wsX9_howManyParts := rl_wsX9_howManyParts_r2 _ (List.mem_of_getElem? (i := 23) rfl)
theorem mw_X9_howManyParts__49 : (.selects RX2 yX2_rankIn yX2_rankIn : Cond) ∈ wsX9_howManyParts := rl_wsX9_howManyParts_r3 _ (List.mem_of_getElem? (i := 0) rfl)
theorem mw_X9_howManyParts__50 : (.initialized RX2 : Cond) ∈ wsX9_howManyParts := rl_wsX9_howManyParts_r3 _ (List.mem_of_getElem? (i := 1) rfl)
theorem mw_X9_howManyParts__51 : (.code yX2_rankIn cX2_rankIn 5 (some .int) : Cond) ∈ wsX9_howManyParts := rl_wsX9_howManyParts_r3 _ (List.mem_of_getElem? (i := 2) rfl)
theorem mw_X9_howManyParts__52 : (.fieldLink RX2 9 "BallPots$Draws" "step" "[I" : Cond) ∈ wsX9_howManyParts := rl_wsX9_howManyParts_r3 _ (List.mem_of_getElem? (i := 3) rfl)
theorem mw_X9_howManyParts__53 : (.fieldLink RX2 34 "BallPots$Draws" "ranks" "LBallPots$Ranks;" : Cond) ∈ wsX9_howManyParts := rl_wsX9_howManyParts_r3 _ (List.mem_of_getElem? (i := 4) rfl)
theorem mw_X9_init__1 : (.methodLink RX9 3 objectInit : Cond) ∈ wsX9_init := List.mem_of_getElem? (i := 1) rfl
theorem mw_X9_init__2 : (.instanceMethod objectInit : Cond) ∈ wsX9_init := List.mem_of_getElem? (i := 2) rfl
theorem mw_X9_init__3 : (.code objectInit ⟨#[0xb1]⟩ 1 none : Cond) ∈ wsX9_init := List.mem_of_getElem? (i := 3) rfl
theorem mw_X9_init__4 : (.arrayClass .int : Cond) ∈ wsX9_init := List.mem_of_getElem? (i := 4) rfl
theorem mw_X9_init__5 : (.fieldLink RX9 9 "BallPots$Swaps" "rows" "[I" : Cond) ∈ wsX9_init := List.mem_of_getElem? (i := 5) rfl
theorem mw_X9_init__6 : (.fieldLink RX9 15 "BallPots$Swaps" "other" "[I" : Cond) ∈ wsX9_init := List.mem_of_getElem? (i := 6) rfl
theorem mw_X9_init__7 : (.fieldLink RX9 18 "BallPots$Swaps" "done" "I" : Cond) ∈ wsX9_init := List.mem_of_getElem? (i := 7) rfl
theorem mw_X9_init__8 : (.fieldLink RX9 22 "BallPots$Swaps" "draws" "LBallPots$Draws;" : Cond) ∈ wsX9_init := List.mem_of_getElem? (i := 8) rfl
theorem mw_X9_init__9 : (.fieldLink RX9 32 "BallPots$Swaps" "ranks" "LBallPots$Ranks;" : Cond) ∈ wsX9_init := List.mem_of_getElem? (i := 9) rfl
theorem mw_X9_meet__1 : (.fieldLink RX9 9 "BallPots$Swaps" "rows" "[I" : Cond) ∈ wsX9_meet := List.mem_of_getElem? (i := 1) rfl
theorem mw_X9_meet__2 : (.fieldLink RX9 61 "BallPots$Swaps" "queued" "I" : Cond) ∈ wsX9_meet := List.mem_of_getElem? (i := 2) rfl
theorem mw_X9_meet__3 : (.fieldLink RX9 15 "BallPots$Swaps" "other" "[I" : Cond) ∈ wsX9_meet := List.mem_of_getElem? (i := 3) rfl
theorem mw_X9_meetSwapped__1 : (.fieldLink RX9 22 "BallPots$Swaps" "draws" "LBallPots$Draws;" : Cond) ∈ wsX9_meetSwapped := List.mem_of_getElem? (i := 1) rfl
theorem mw_X9_pass__1 : (.fieldLink RX9 22 "BallPots$Swaps" "draws" "LBallPots$Draws;" : Cond) ∈ wsX9_pass := List.mem_of_getElem? (i := 1) rfl
theorem mw_X9_rowsTo__1 : (.fieldLink RX9 9 "BallPots$Swaps" "rows" "[I" : Cond) ∈ wsX9_rowsTo := rl_wsX9_rowsTo_r1 _ (List.mem_of_getElem? (i := 0) rfl)
theorem mw_X9_rowsTo__2 : (.methodLink RX9 113 yX9_swapTimes : Cond) ∈ wsX9_rowsTo := rl_wsX9_rowsTo_r1 _ (List.mem_of_getElem? (i := 1) rfl)
theorem mw_X9_rowsTo__3 : (.instanceMethod yX9_swapTimes : Cond) ∈ wsX9_rowsTo := rl_wsX9_rowsTo_r1 _ (List.mem_of_getElem? (i := 2) rfl)
theorem mw_X9_rowsTo__4 : (.selects RX9 yX9_swapTimes yX9_swapTimes : Cond) ∈ wsX9_rowsTo := rl_wsX9_rowsTo_r1 _ (List.mem_of_getElem? (i := 3) rfl)
theorem mw_X9_rowsTo__5 : (.initialized RX9 : Cond) ∈ wsX9_rowsTo := rl_wsX9_rowsTo_r1 _ (List.mem_of_getElem? (i := 4) rfl)
theorem mw_X9_rowsTo__6 : (.code yX9_swapTimes cX9_swapTimes 3 none : Cond) ∈ wsX9_rowsTo := rl_wsX9_rowsTo_r1 _ (List.mem_of_getElem? (i := 5) rfl)
theorem mw_X9_rowsTo__7 : (.fieldLink RX9 18 "BallPots$Swaps" "done" "I" : Cond) ∈ wsX9_rowsTo := rl_wsX9_rowsTo_r1 _ (List.mem_of_getElem? (i := 6) rfl)
theorem mw_X9_rowsTo__8 : (.fieldLink RX9 22 "BallPots$Swaps" "draws" "LBallPots$Draws;" : Cond) ∈ wsX9_rowsTo := rl_wsX9_rowsTo_r1 _ (List.mem_of_getElem? (i := 7) rfl)
theorem mw_X9_rowsTo__9 : (.methodLink RX9 58 yX9_clearRows : Cond) ∈ wsX9_rowsTo := rl_wsX9_rowsTo_r1 _ (List.mem_of_getElem? (i := 8) rfl)
theorem mw_X9_rowsTo__10 : (.instanceMethod yX9_clearRows : Cond) ∈ wsX9_rowsTo := rl_wsX9_rowsTo_r1 _ (List.mem_of_getElem? (i := 9) rfl)
theorem mw_X9_rowsTo__11 : (.selects RX9 yX9_clearRows yX9_clearRows : Cond) ∈ wsX9_rowsTo := rl_wsX9_rowsTo_r1 _ (List.mem_of_getElem? (i := 10) rfl)
theorem mw_X9_rowsTo__12 : (.code yX9_clearRows cX9_clearRows 1 none : Cond) ∈ wsX9_rowsTo := rl_wsX9_rowsTo_r1 _ (List.mem_of_getElem? (i := 11) rfl)
theorem mw_X9_rowsTo__13 : (.arrayClass .int : Cond) ∈ wsX9_rowsTo := rl_wsX9_rowsTo_r1 _ (List.mem_of_getElem? (i := 12) rfl)
theorem mw_X9_rowsTo__14 : (.fieldLink RX9 15 "BallPots$Swaps" "other" "[I" : Cond) ∈ wsX9_rowsTo := rl_wsX9_rowsTo_r1 _ (List.mem_of_getElem? (i := 13) rfl)
theorem mw_X9_rowsTo__15 : (.methodLink RX9 52 yJ7_fill_fda19 : Cond) ∈ wsX9_rowsTo := rl_wsX9_rowsTo_r1 _ (List.mem_of_getElem? (i := 14) rfl)
theorem mw_X9_rowsTo__16 : (.static yJ7_fill_fda19 : Cond) ∈ wsX9_rowsTo := rl_wsX9_rowsTo_r1 _ (List.mem_of_getElem? (i := 15) rfl)
theorem mw_X9_rowsTo__17 : (.initialized RJ7 : Cond) ∈ wsX9_rowsTo := rl_wsX9_rowsTo_r1 _ (List.mem_of_getElem? (i := 16) rfl)
theorem mw_X9_rowsTo__18 : (.code yJ7_fill_fda19 cJ7_fill_fda19 5 none : Cond) ∈ wsX9_rowsTo := rl_wsX9_rowsTo_r1 _ (List.mem_of_getElem? (i := 17) rfl)
theorem mw_X9_rowsTo__19 : (.methodLink RJ7 13 yJ7_rangeCheck_23922 : Cond) ∈ wsX9_rowsTo := rl_wsX9_rowsTo_r1 _ (List.mem_of_getElem? (i := 18) rfl)
theorem mw_X9_rowsTo__20 : (.static yJ7_rangeCheck_23922 : Cond) ∈ wsX9_rowsTo := rl_wsX9_rowsTo_r1 _ (List.mem_of_getElem? (i := 19) rfl)
theorem mw_X9_rowsTo__21 : (.code yJ7_rangeCheck_23922 cJ7_rangeCheck_23922 3 none : Cond) ∈ wsX9_rowsTo := rl_wsX9_rowsTo_r1 _ (List.mem_of_getElem? (i := 20) rfl)
theorem mw_X9_rowsTo__22 : (.classLink RJ7 68 RJx00060 : Cond) ∈ wsX9_rowsTo := rl_wsX9_rowsTo_r1 _ (List.mem_of_getElem? (i := 21) rfl)
theorem mw_X9_rowsTo__23 : (.instantiable RJx00060 6 : Cond) ∈ wsX9_rowsTo := rl_wsX9_rowsTo_r1 _ (List.mem_of_getElem? (i := 22) rfl)
theorem mw_X9_rowsTo__24 : (.initialized RJx00060 : Cond) ∈ wsX9_rowsTo := rl_wsX9_rowsTo_r1 _ (List.mem_of_getElem? (i := 23) rfl)
theorem mw_X9_rowsTo__25 : (.methodLink RX9 124 yX9_swapOnce : Cond) ∈ wsX9_rowsTo := rl_wsX9_rowsTo_r2 _ (List.mem_of_getElem? (i := 0) rfl)
theorem mw_X9_rowsTo__26 : (.instanceMethod yX9_swapOnce : Cond) ∈ wsX9_rowsTo := rl_wsX9_rowsTo_r2 _ (List.mem_of_getElem? (i := 1) rfl)
theorem mw_X9_rowsTo__27 : (.selects RX9 yX9_swapOnce yX9_swapOnce : Cond) ∈ wsX9_rowsTo := rl_wsX9_rowsTo_r2 _ (List.mem_of_getElem? (i := 2) rfl)
theorem mw_X9_rowsTo__28 : (.code yX9_swapOnce cX9_swapOnce 3 none : Cond) ∈ wsX9_rowsTo := rl_wsX9_rowsTo_r2 _ (List.mem_of_getElem? (i := 3) rfl)
theorem mw_X9_rowsTo__29 : (.methodLink RX9 127 yX9_pass : Cond) ∈ wsX9_rowsTo := rl_wsX9_rowsTo_r2 _ (List.mem_of_getElem? (i := 4) rfl)
theorem mw_X9_rowsTo__30 : (.instanceMethod yX9_pass : Cond) ∈ wsX9_rowsTo := rl_wsX9_rowsTo_r2 _ (List.mem_of_getElem? (i := 5) rfl)
theorem mw_X9_rowsTo__31 : (.selects RX9 yX9_pass yX9_pass : Cond) ∈ wsX9_rowsTo := rl_wsX9_rowsTo_r2 _ (List.mem_of_getElem? (i := 6) rfl)
theorem mw_X9_rowsTo__32 : (.code yX9_pass cX9_pass 9 none : Cond) ∈ wsX9_rowsTo := rl_wsX9_rowsTo_r2 _ (List.mem_of_getElem? (i := 7) rfl)
theorem mw_X9_rowsTo__33 : (.fieldLink RX9 32 "BallPots$Swaps" "ranks" "LBallPots$Ranks;" : Cond) ∈ wsX9_rowsTo := rl_wsX9_rowsTo_r2 _ (List.mem_of_getElem? (i := 8) rfl)
theorem mw_X9_rowsTo__34 : (.methodLink RX9 99 yX2_rankIn : Cond) ∈ wsX9_rowsTo := rl_wsX9_rowsTo_r2 _ (List.mem_of_getElem? (i := 9) rfl)
theorem mw_X9_rowsTo__35 : (.instanceMethod yX2_rankIn : Cond) ∈ wsX9_rowsTo := rl_wsX9_rowsTo_r2 _ (List.mem_of_getElem? (i := 10) rfl)
theorem mw_X9_rowsTo__36 : (.selects RX2 yX2_rankIn yX2_rankIn : Cond) ∈ wsX9_rowsTo := rl_wsX9_rowsTo_r2 _ (List.mem_of_getElem? (i := 11) rfl)
theorem mw_X9_rowsTo__37 : (.initialized RX2 : Cond) ∈ wsX9_rowsTo := rl_wsX9_rowsTo_r2 _ (List.mem_of_getElem? (i := 12) rfl)
theorem mw_X9_rowsTo__38 : (.code yX2_rankIn cX2_rankIn 5 (some .int) : Cond) ∈ wsX9_rowsTo := rl_wsX9_rowsTo_r2 _ (List.mem_of_getElem? (i := 13) rfl)
theorem mw_X9_rowsTo__39 : (.fieldLink RX2 9 "BallPots$Draws" "step" "[I" : Cond) ∈ wsX9_rowsTo := rl_wsX9_rowsTo_r2 _ (List.mem_of_getElem? (i := 14) rfl)
theorem mw_X9_rowsTo__40 : (.fieldLink RX2 34 "BallPots$Draws" "ranks" "LBallPots$Ranks;" : Cond) ∈ wsX9_rowsTo := rl_wsX9_rowsTo_r2 _ (List.mem_of_getElem? (i := 15) rfl)
theorem mw_X9_sizeOfFirstPart__1 : (.fieldLink RX9 43 "BallPots$Swaps" "firstPart" "I" : Cond) ∈ wsX9_sizeOfFirstPart := rl_wsX9_sizeOfFirstPart_r1 _ (List.mem_of_getElem? (i := 0) rfl)
theorem mw_X9_sizeOfFirstPart__2 : (.methodLink RX9 37 yX9_findParts : Cond) ∈ wsX9_sizeOfFirstPart := rl_wsX9_sizeOfFirstPart_r1 _ (List.mem_of_getElem? (i := 1) rfl)
theorem mw_X9_sizeOfFirstPart__3 : (.instanceMethod yX9_findParts : Cond) ∈ wsX9_sizeOfFirstPart := rl_wsX9_sizeOfFirstPart_r1 _ (List.mem_of_getElem? (i := 2) rfl)
theorem mw_X9_sizeOfFirstPart__4 : (.selects RX9 yX9_findParts yX9_findParts : Cond) ∈ wsX9_sizeOfFirstPart := rl_wsX9_sizeOfFirstPart_r1 _ (List.mem_of_getElem? (i := 3) rfl)
theorem mw_X9_sizeOfFirstPart__5 : (.initialized RX9 : Cond) ∈ wsX9_sizeOfFirstPart := rl_wsX9_sizeOfFirstPart_r1 _ (List.mem_of_getElem? (i := 4) rfl)
theorem mw_X9_sizeOfFirstPart__6 : (.code yX9_findParts cX9_findParts 3 none : Cond) ∈ wsX9_sizeOfFirstPart := rl_wsX9_sizeOfFirstPart_r1 _ (List.mem_of_getElem? (i := 5) rfl)
theorem mw_X9_sizeOfFirstPart__7 : (.fieldLink RX9 33 "BallPots$Swaps" "partsFresh" "Z" : Cond) ∈ wsX9_sizeOfFirstPart := rl_wsX9_sizeOfFirstPart_r1 _ (List.mem_of_getElem? (i := 6) rfl)
theorem mw_X9_sizeOfFirstPart__8 : (.fieldLink RX9 40 "BallPots$Swaps" "manyParts" "I" : Cond) ∈ wsX9_sizeOfFirstPart := rl_wsX9_sizeOfFirstPart_r1 _ (List.mem_of_getElem? (i := 7) rfl)
theorem mw_X9_sizeOfFirstPart__9 : (.fieldLink RX9 46 "BallPots$Swaps" "greatestPart" "I" : Cond) ∈ wsX9_sizeOfFirstPart := rl_wsX9_sizeOfFirstPart_r1 _ (List.mem_of_getElem? (i := 8) rfl)
theorem mw_X9_sizeOfFirstPart__10 : (.fieldLink RX9 61 "BallPots$Swaps" "queued" "I" : Cond) ∈ wsX9_sizeOfFirstPart := rl_wsX9_sizeOfFirstPart_r1 _ (List.mem_of_getElem? (i := 9) rfl)
theorem mw_X9_sizeOfFirstPart__11 : (.fieldLink RX9 22 "BallPots$Swaps" "draws" "LBallPots$Draws;" : Cond) ∈ wsX9_sizeOfFirstPart := rl_wsX9_sizeOfFirstPart_r1 _ (List.mem_of_getElem? (i := 10) rfl)
theorem mw_X9_sizeOfFirstPart__12 : (.fieldLink RX9 9 "BallPots$Swaps" "rows" "[I" : Cond) ∈ wsX9_sizeOfFirstPart := rl_wsX9_sizeOfFirstPart_r1 _ (List.mem_of_getElem? (i := 11) rfl)
theorem mw_X9_sizeOfFirstPart__13 : (.methodLink RX9 74 Lib.Math.max.name : Cond) ∈ wsX9_sizeOfFirstPart := rl_wsX9_sizeOfFirstPart_r1 _ (List.mem_of_getElem? (i := 12) rfl)
theorem mw_X9_sizeOfFirstPart__14 : (.static Lib.Math.max.name : Cond) ∈ wsX9_sizeOfFirstPart := rl_wsX9_sizeOfFirstPart_r1 _ (List.mem_of_getElem? (i := 13) rfl)
theorem mw_X9_sizeOfFirstPart__15 : (.initialized "java/lang/Math" : Cond) ∈ wsX9_sizeOfFirstPart := rl_wsX9_sizeOfFirstPart_r1 _ (List.mem_of_getElem? (i := 14) rfl)
theorem mw_X9_sizeOfFirstPart__16 : (.code Lib.Math.max.name Lib.Math.max.code 2 (some .int) : Cond) ∈ wsX9_sizeOfFirstPart := rl_wsX9_sizeOfFirstPart_r1 _ (List.mem_of_getElem? (i := 15) rfl)
theorem mw_X9_sizeOfFirstPart__17 : (.methodLink RX9 58 yX9_clearRows : Cond) ∈ wsX9_sizeOfFirstPart := rl_wsX9_sizeOfFirstPart_r1 _ (List.mem_of_getElem? (i := 16) rfl)
theorem mw_X9_sizeOfFirstPart__18 : (.instanceMethod yX9_clearRows : Cond) ∈ wsX9_sizeOfFirstPart := rl_wsX9_sizeOfFirstPart_r1 _ (List.mem_of_getElem? (i := 17) rfl)
theorem mw_X9_sizeOfFirstPart__19 : (.selects RX9 yX9_clearRows yX9_clearRows : Cond) ∈ wsX9_sizeOfFirstPart := rl_wsX9_sizeOfFirstPart_r1 _ (List.mem_of_getElem? (i := 18) rfl)
theorem mw_X9_sizeOfFirstPart__20 : (.code yX9_clearRows cX9_clearRows 1 none : Cond) ∈ wsX9_sizeOfFirstPart := rl_wsX9_sizeOfFirstPart_r1 _ (List.mem_of_getElem? (i := 19) rfl)
theorem mw_X9_sizeOfFirstPart__21 : (.arrayClass .int : Cond) ∈ wsX9_sizeOfFirstPart := rl_wsX9_sizeOfFirstPart_r1 _ (List.mem_of_getElem? (i := 20) rfl)
theorem mw_X9_sizeOfFirstPart__22 : (.fieldLink RX9 15 "BallPots$Swaps" "other" "[I" : Cond) ∈ wsX9_sizeOfFirstPart := rl_wsX9_sizeOfFirstPart_r1 _ (List.mem_of_getElem? (i := 21) rfl)
theorem mw_X9_sizeOfFirstPart__23 : (.fieldLink RX9 18 "BallPots$Swaps" "done" "I" : Cond) ∈ wsX9_sizeOfFirstPart := rl_wsX9_sizeOfFirstPart_r1 _ (List.mem_of_getElem? (i := 22) rfl)
theorem mw_X9_sizeOfFirstPart__24 : (.methodLink RX9 52 yJ7_fill_fda19 : Cond) ∈ wsX9_sizeOfFirstPart := rl_wsX9_sizeOfFirstPart_r1 _ (List.mem_of_getElem? (i := 23) rfl)
theorem mw_X9_sizeOfFirstPart__25 : (.static yJ7_fill_fda19 : Cond) ∈ wsX9_sizeOfFirstPart := rl_wsX9_sizeOfFirstPart_r2 _ (List.mem_of_getElem? (i := 0) rfl)
theorem mw_X9_sizeOfFirstPart__26 : (.initialized RJ7 : Cond) ∈ wsX9_sizeOfFirstPart := rl_wsX9_sizeOfFirstPart_r2 _ (List.mem_of_getElem? (i := 1) rfl)
theorem mw_X9_sizeOfFirstPart__27 : (.code yJ7_fill_fda19 cJ7_fill_fda19 5 none : Cond) ∈ wsX9_sizeOfFirstPart := rl_wsX9_sizeOfFirstPart_r2 _ (List.mem_of_getElem? (i := 2) rfl)
theorem mw_X9_sizeOfFirstPart__28 : (.methodLink RJ7 13 yJ7_rangeCheck_23922 : Cond) ∈ wsX9_sizeOfFirstPart := rl_wsX9_sizeOfFirstPart_r2 _ (List.mem_of_getElem? (i := 3) rfl)
theorem mw_X9_sizeOfFirstPart__29 : (.static yJ7_rangeCheck_23922 : Cond) ∈ wsX9_sizeOfFirstPart := rl_wsX9_sizeOfFirstPart_r2 _ (List.mem_of_getElem? (i := 4) rfl)
theorem mw_X9_sizeOfFirstPart__30 : (.code yJ7_rangeCheck_23922 cJ7_rangeCheck_23922 3 none : Cond) ∈ wsX9_sizeOfFirstPart := rl_wsX9_sizeOfFirstPart_r2 _ (List.mem_of_getElem? (i := 5) rfl)
theorem mw_X9_sizeOfFirstPart__31 : (.classLink RJ7 68 RJx00060 : Cond) ∈ wsX9_sizeOfFirstPart := rl_wsX9_sizeOfFirstPart_r2 _ (List.mem_of_getElem? (i := 6) rfl)
theorem mw_X9_sizeOfFirstPart__32 : (.instantiable RJx00060 6 : Cond) ∈ wsX9_sizeOfFirstPart := rl_wsX9_sizeOfFirstPart_r2 _ (List.mem_of_getElem? (i := 7) rfl)
theorem mw_X9_sizeOfFirstPart__33 : (.initialized RJx00060 : Cond) ∈ wsX9_sizeOfFirstPart := rl_wsX9_sizeOfFirstPart_r2 _ (List.mem_of_getElem? (i := 8) rfl)
theorem mw_X9_sizeOfFirstPart__34 : (.methodLink RX9 70 yX9_sizeOfPart : Cond) ∈ wsX9_sizeOfFirstPart := rl_wsX9_sizeOfFirstPart_r2 _ (List.mem_of_getElem? (i := 9) rfl)
theorem mw_X9_sizeOfFirstPart__35 : (.instanceMethod yX9_sizeOfPart : Cond) ∈ wsX9_sizeOfFirstPart := rl_wsX9_sizeOfFirstPart_r2 _ (List.mem_of_getElem? (i := 10) rfl)
theorem mw_X9_sizeOfFirstPart__36 : (.selects RX9 yX9_sizeOfPart yX9_sizeOfPart : Cond) ∈ wsX9_sizeOfFirstPart := rl_wsX9_sizeOfFirstPart_r2 _ (List.mem_of_getElem? (i := 11) rfl)
theorem mw_X9_sizeOfFirstPart__37 : (.code yX9_sizeOfPart cX9_sizeOfPart 4 (some .int) : Cond) ∈ wsX9_sizeOfFirstPart := rl_wsX9_sizeOfFirstPart_r2 _ (List.mem_of_getElem? (i := 12) rfl)
theorem mw_X9_sizeOfFirstPart__38 : (.methodLink RX9 80 yX9_meet : Cond) ∈ wsX9_sizeOfFirstPart := rl_wsX9_sizeOfFirstPart_r2 _ (List.mem_of_getElem? (i := 13) rfl)
theorem mw_X9_sizeOfFirstPart__39 : (.instanceMethod yX9_meet : Cond) ∈ wsX9_sizeOfFirstPart := rl_wsX9_sizeOfFirstPart_r2 _ (List.mem_of_getElem? (i := 14) rfl)
theorem mw_X9_sizeOfFirstPart__40 : (.selects RX9 yX9_meet yX9_meet : Cond) ∈ wsX9_sizeOfFirstPart := rl_wsX9_sizeOfFirstPart_r2 _ (List.mem_of_getElem? (i := 15) rfl)
theorem mw_X9_sizeOfFirstPart__41 : (.code yX9_meet cX9_meet 2 none : Cond) ∈ wsX9_sizeOfFirstPart := rl_wsX9_sizeOfFirstPart_r2 _ (List.mem_of_getElem? (i := 16) rfl)
theorem mw_X9_sizeOfFirstPart__42 : (.methodLink RX9 84 yX9_meetSwapped : Cond) ∈ wsX9_sizeOfFirstPart := rl_wsX9_sizeOfFirstPart_r2 _ (List.mem_of_getElem? (i := 17) rfl)
theorem mw_X9_sizeOfFirstPart__43 : (.instanceMethod yX9_meetSwapped : Cond) ∈ wsX9_sizeOfFirstPart := rl_wsX9_sizeOfFirstPart_r2 _ (List.mem_of_getElem? (i := 18) rfl)
theorem mw_X9_sizeOfFirstPart__44 : (.selects RX9 yX9_meetSwapped yX9_meetSwapped : Cond) ∈ wsX9_sizeOfFirstPart := rl_wsX9_sizeOfFirstPart_r2 _ (List.mem_of_getElem? (i := 19) rfl)
theorem mw_X9_sizeOfFirstPart__45 : (.code yX9_meetSwapped cX9_meetSwapped 8 none : Cond) ∈ wsX9_sizeOfFirstPart := rl_wsX9_sizeOfFirstPart_r2 _ (List.mem_of_getElem? (i := 20) rfl)
theorem mw_X9_sizeOfFirstPart__46 : (.fieldLink RX9 32 "BallPots$Swaps" "ranks" "LBallPots$Ranks;" : Cond) ∈ wsX9_sizeOfFirstPart := rl_wsX9_sizeOfFirstPart_r2 _ (List.mem_of_getElem? (i := 21) rfl)
theorem mw_X9_sizeOfFirstPart__47 : (.methodLink RX9 99 yX2_rankIn : Cond) ∈ wsX9_sizeOfFirstPart := rl_wsX9_sizeOfFirstPart_r2 _ (List.mem_of_getElem? (i := 22) rfl)
theorem mw_X9_sizeOfFirstPart__48 : (.instanceMethod yX2_rankIn : Cond) ∈ wsX9_sizeOfFirstPart := rl_wsX9_sizeOfFirstPart_r2 _ (List.mem_of_getElem? (i := 23) rfl)
theorem mw_X9_sizeOfFirstPart__49 : (.selects RX2 yX2_rankIn yX2_rankIn : Cond) ∈ wsX9_sizeOfFirstPart := rl_wsX9_sizeOfFirstPart_r3 _ (List.mem_of_getElem? (i := 0) rfl)
theorem mw_X9_sizeOfFirstPart__50 : (.initialized RX2 : Cond) ∈ wsX9_sizeOfFirstPart := rl_wsX9_sizeOfFirstPart_r3 _ (List.mem_of_getElem? (i := 1) rfl)
theorem mw_X9_sizeOfFirstPart__51 : (.code yX2_rankIn cX2_rankIn 5 (some .int) : Cond) ∈ wsX9_sizeOfFirstPart := rl_wsX9_sizeOfFirstPart_r3 _ (List.mem_of_getElem? (i := 2) rfl)
theorem mw_X9_sizeOfFirstPart__52 : (.fieldLink RX2 9 "BallPots$Draws" "step" "[I" : Cond) ∈ wsX9_sizeOfFirstPart := rl_wsX9_sizeOfFirstPart_r3 _ (List.mem_of_getElem? (i := 3) rfl)
theorem mw_X9_sizeOfFirstPart__53 : (.fieldLink RX2 34 "BallPots$Draws" "ranks" "LBallPots$Ranks;" : Cond) ∈ wsX9_sizeOfFirstPart := rl_wsX9_sizeOfFirstPart_r3 _ (List.mem_of_getElem? (i := 4) rfl)
theorem mw_X9_sizeOfGreatestPart__1 : (.fieldLink RX9 46 "BallPots$Swaps" "greatestPart" "I" : Cond) ∈ wsX9_sizeOfGreatestPart := rl_wsX9_sizeOfGreatestPart_r1 _ (List.mem_of_getElem? (i := 0) rfl)
theorem mw_X9_sizeOfGreatestPart__2 : (.methodLink RX9 37 yX9_findParts : Cond) ∈ wsX9_sizeOfGreatestPart := rl_wsX9_sizeOfGreatestPart_r1 _ (List.mem_of_getElem? (i := 1) rfl)
theorem mw_X9_sizeOfGreatestPart__3 : (.instanceMethod yX9_findParts : Cond) ∈ wsX9_sizeOfGreatestPart := rl_wsX9_sizeOfGreatestPart_r1 _ (List.mem_of_getElem? (i := 2) rfl)
theorem mw_X9_sizeOfGreatestPart__4 : (.selects RX9 yX9_findParts yX9_findParts : Cond) ∈ wsX9_sizeOfGreatestPart := rl_wsX9_sizeOfGreatestPart_r1 _ (List.mem_of_getElem? (i := 3) rfl)
theorem mw_X9_sizeOfGreatestPart__5 : (.initialized RX9 : Cond) ∈ wsX9_sizeOfGreatestPart := rl_wsX9_sizeOfGreatestPart_r1 _ (List.mem_of_getElem? (i := 4) rfl)
theorem mw_X9_sizeOfGreatestPart__6 : (.code yX9_findParts cX9_findParts 3 none : Cond) ∈ wsX9_sizeOfGreatestPart := rl_wsX9_sizeOfGreatestPart_r1 _ (List.mem_of_getElem? (i := 5) rfl)
theorem mw_X9_sizeOfGreatestPart__7 : (.fieldLink RX9 33 "BallPots$Swaps" "partsFresh" "Z" : Cond) ∈ wsX9_sizeOfGreatestPart := rl_wsX9_sizeOfGreatestPart_r1 _ (List.mem_of_getElem? (i := 6) rfl)
theorem mw_X9_sizeOfGreatestPart__8 : (.fieldLink RX9 40 "BallPots$Swaps" "manyParts" "I" : Cond) ∈ wsX9_sizeOfGreatestPart := rl_wsX9_sizeOfGreatestPart_r1 _ (List.mem_of_getElem? (i := 7) rfl)
theorem mw_X9_sizeOfGreatestPart__9 : (.fieldLink RX9 43 "BallPots$Swaps" "firstPart" "I" : Cond) ∈ wsX9_sizeOfGreatestPart := rl_wsX9_sizeOfGreatestPart_r1 _ (List.mem_of_getElem? (i := 8) rfl)
theorem mw_X9_sizeOfGreatestPart__10 : (.fieldLink RX9 61 "BallPots$Swaps" "queued" "I" : Cond) ∈ wsX9_sizeOfGreatestPart := rl_wsX9_sizeOfGreatestPart_r1 _ (List.mem_of_getElem? (i := 9) rfl)
theorem mw_X9_sizeOfGreatestPart__11 : (.fieldLink RX9 22 "BallPots$Swaps" "draws" "LBallPots$Draws;" : Cond) ∈ wsX9_sizeOfGreatestPart := rl_wsX9_sizeOfGreatestPart_r1 _ (List.mem_of_getElem? (i := 10) rfl)
theorem mw_X9_sizeOfGreatestPart__12 : (.fieldLink RX9 9 "BallPots$Swaps" "rows" "[I" : Cond) ∈ wsX9_sizeOfGreatestPart := rl_wsX9_sizeOfGreatestPart_r1 _ (List.mem_of_getElem? (i := 11) rfl)
theorem mw_X9_sizeOfGreatestPart__13 : (.methodLink RX9 74 Lib.Math.max.name : Cond) ∈ wsX9_sizeOfGreatestPart := rl_wsX9_sizeOfGreatestPart_r1 _ (List.mem_of_getElem? (i := 12) rfl)
theorem mw_X9_sizeOfGreatestPart__14 : (.static Lib.Math.max.name : Cond) ∈ wsX9_sizeOfGreatestPart := rl_wsX9_sizeOfGreatestPart_r1 _ (List.mem_of_getElem? (i := 13) rfl)
theorem mw_X9_sizeOfGreatestPart__15 : (.initialized "java/lang/Math" : Cond) ∈ wsX9_sizeOfGreatestPart := rl_wsX9_sizeOfGreatestPart_r1 _ (List.mem_of_getElem? (i := 14) rfl)
theorem mw_X9_sizeOfGreatestPart__16 : (.code Lib.Math.max.name Lib.Math.max.code 2 (some .int) : Cond) ∈ wsX9_sizeOfGreatestPart := rl_wsX9_sizeOfGreatestPart_r1 _ (List.mem_of_getElem? (i := 15) rfl)
theorem mw_X9_sizeOfGreatestPart__17 : (.methodLink RX9 58 yX9_clearRows : Cond) ∈ wsX9_sizeOfGreatestPart := rl_wsX9_sizeOfGreatestPart_r1 _ (List.mem_of_getElem? (i := 16) rfl)
theorem mw_X9_sizeOfGreatestPart__18 : (.instanceMethod yX9_clearRows : Cond) ∈ wsX9_sizeOfGreatestPart := rl_wsX9_sizeOfGreatestPart_r1 _ (List.mem_of_getElem? (i := 17) rfl)
theorem mw_X9_sizeOfGreatestPart__19 : (.selects RX9 yX9_clearRows yX9_clearRows : Cond) ∈ wsX9_sizeOfGreatestPart := rl_wsX9_sizeOfGreatestPart_r1 _ (List.mem_of_getElem? (i := 18) rfl)
theorem mw_X9_sizeOfGreatestPart__20 : (.code yX9_clearRows cX9_clearRows 1 none : Cond) ∈ wsX9_sizeOfGreatestPart := rl_wsX9_sizeOfGreatestPart_r1 _ (List.mem_of_getElem? (i := 19) rfl)
theorem mw_X9_sizeOfGreatestPart__21 : (.arrayClass .int : Cond) ∈ wsX9_sizeOfGreatestPart := rl_wsX9_sizeOfGreatestPart_r1 _ (List.mem_of_getElem? (i := 20) rfl)
theorem mw_X9_sizeOfGreatestPart__22 : (.fieldLink RX9 15 "BallPots$Swaps" "other" "[I" : Cond) ∈ wsX9_sizeOfGreatestPart := rl_wsX9_sizeOfGreatestPart_r1 _ (List.mem_of_getElem? (i := 21) rfl)
theorem mw_X9_sizeOfGreatestPart__23 : (.fieldLink RX9 18 "BallPots$Swaps" "done" "I" : Cond) ∈ wsX9_sizeOfGreatestPart := rl_wsX9_sizeOfGreatestPart_r1 _ (List.mem_of_getElem? (i := 22) rfl)
theorem mw_X9_sizeOfGreatestPart__24 : (.methodLink RX9 52 yJ7_fill_fda19 : Cond) ∈ wsX9_sizeOfGreatestPart := rl_wsX9_sizeOfGreatestPart_r1 _ (List.mem_of_getElem? (i := 23) rfl)
theorem mw_X9_sizeOfGreatestPart__25 : (.static yJ7_fill_fda19 : Cond) ∈ wsX9_sizeOfGreatestPart := rl_wsX9_sizeOfGreatestPart_r2 _ (List.mem_of_getElem? (i := 0) rfl)
theorem mw_X9_sizeOfGreatestPart__26 : (.initialized RJ7 : Cond) ∈ wsX9_sizeOfGreatestPart := rl_wsX9_sizeOfGreatestPart_r2 _ (List.mem_of_getElem? (i := 1) rfl)
theorem mw_X9_sizeOfGreatestPart__27 : (.code yJ7_fill_fda19 cJ7_fill_fda19 5 none : Cond) ∈ wsX9_sizeOfGreatestPart := rl_wsX9_sizeOfGreatestPart_r2 _ (List.mem_of_getElem? (i := 2) rfl)
theorem mw_X9_sizeOfGreatestPart__28 : (.methodLink RJ7 13 yJ7_rangeCheck_23922 : Cond) ∈ wsX9_sizeOfGreatestPart := rl_wsX9_sizeOfGreatestPart_r2 _ (List.mem_of_getElem? (i := 3) rfl)
theorem mw_X9_sizeOfGreatestPart__29 : (.static yJ7_rangeCheck_23922 : Cond) ∈ wsX9_sizeOfGreatestPart := rl_wsX9_sizeOfGreatestPart_r2 _ (List.mem_of_getElem? (i := 4) rfl)
theorem mw_X9_sizeOfGreatestPart__30 : (.code yJ7_rangeCheck_23922 cJ7_rangeCheck_23922 3 none : Cond) ∈ wsX9_sizeOfGreatestPart := rl_wsX9_sizeOfGreatestPart_r2 _ (List.mem_of_getElem? (i := 5) rfl)
theorem mw_X9_sizeOfGreatestPart__31 : (.classLink RJ7 68 RJx00060 : Cond) ∈ wsX9_sizeOfGreatestPart := rl_wsX9_sizeOfGreatestPart_r2 _ (List.mem_of_getElem? (i := 6) rfl)
theorem mw_X9_sizeOfGreatestPart__32 : (.instantiable RJx00060 6 : Cond) ∈ wsX9_sizeOfGreatestPart := rl_wsX9_sizeOfGreatestPart_r2 _ (List.mem_of_getElem? (i := 7) rfl)
theorem mw_X9_sizeOfGreatestPart__33 : (.initialized RJx00060 : Cond) ∈ wsX9_sizeOfGreatestPart := rl_wsX9_sizeOfGreatestPart_r2 _ (List.mem_of_getElem? (i := 8) rfl)
theorem mw_X9_sizeOfGreatestPart__34 : (.methodLink RX9 70 yX9_sizeOfPart : Cond) ∈ wsX9_sizeOfGreatestPart := rl_wsX9_sizeOfGreatestPart_r2 _ (List.mem_of_getElem? (i := 9) rfl)
theorem mw_X9_sizeOfGreatestPart__35 : (.instanceMethod yX9_sizeOfPart : Cond) ∈ wsX9_sizeOfGreatestPart := rl_wsX9_sizeOfGreatestPart_r2 _ (List.mem_of_getElem? (i := 10) rfl)
theorem mw_X9_sizeOfGreatestPart__36 : (.selects RX9 yX9_sizeOfPart yX9_sizeOfPart : Cond) ∈ wsX9_sizeOfGreatestPart := rl_wsX9_sizeOfGreatestPart_r2 _ (List.mem_of_getElem? (i := 11) rfl)
theorem mw_X9_sizeOfGreatestPart__37 : (.code yX9_sizeOfPart cX9_sizeOfPart 4 (some .int) : Cond) ∈ wsX9_sizeOfGreatestPart := rl_wsX9_sizeOfGreatestPart_r2 _ (List.mem_of_getElem? (i := 12) rfl)
theorem mw_X9_sizeOfGreatestPart__38 : (.methodLink RX9 80 yX9_meet : Cond) ∈ wsX9_sizeOfGreatestPart := rl_wsX9_sizeOfGreatestPart_r2 _ (List.mem_of_getElem? (i := 13) rfl)
theorem mw_X9_sizeOfGreatestPart__39 : (.instanceMethod yX9_meet : Cond) ∈ wsX9_sizeOfGreatestPart := rl_wsX9_sizeOfGreatestPart_r2 _ (List.mem_of_getElem? (i := 14) rfl)
theorem mw_X9_sizeOfGreatestPart__40 : (.selects RX9 yX9_meet yX9_meet : Cond) ∈ wsX9_sizeOfGreatestPart := rl_wsX9_sizeOfGreatestPart_r2 _ (List.mem_of_getElem? (i := 15) rfl)
theorem mw_X9_sizeOfGreatestPart__41 : (.code yX9_meet cX9_meet 2 none : Cond) ∈ wsX9_sizeOfGreatestPart := rl_wsX9_sizeOfGreatestPart_r2 _ (List.mem_of_getElem? (i := 16) rfl)
theorem mw_X9_sizeOfGreatestPart__42 : (.methodLink RX9 84 yX9_meetSwapped : Cond) ∈ wsX9_sizeOfGreatestPart := rl_wsX9_sizeOfGreatestPart_r2 _ (List.mem_of_getElem? (i := 17) rfl)
theorem mw_X9_sizeOfGreatestPart__43 : (.instanceMethod yX9_meetSwapped : Cond) ∈ wsX9_sizeOfGreatestPart := rl_wsX9_sizeOfGreatestPart_r2 _ (List.mem_of_getElem? (i := 18) rfl)
theorem mw_X9_sizeOfGreatestPart__44 : (.selects RX9 yX9_meetSwapped yX9_meetSwapped : Cond) ∈ wsX9_sizeOfGreatestPart := rl_wsX9_sizeOfGreatestPart_r2 _ (List.mem_of_getElem? (i := 19) rfl)
theorem mw_X9_sizeOfGreatestPart__45 : (.code yX9_meetSwapped cX9_meetSwapped 8 none : Cond) ∈ wsX9_sizeOfGreatestPart := rl_wsX9_sizeOfGreatestPart_r2 _ (List.mem_of_getElem? (i := 20) rfl)
theorem mw_X9_sizeOfGreatestPart__46 : (.fieldLink RX9 32 "BallPots$Swaps" "ranks" "LBallPots$Ranks;" : Cond) ∈ wsX9_sizeOfGreatestPart := rl_wsX9_sizeOfGreatestPart_r2 _ (List.mem_of_getElem? (i := 21) rfl)
theorem mw_X9_sizeOfGreatestPart__47 : (.methodLink RX9 99 yX2_rankIn : Cond) ∈ wsX9_sizeOfGreatestPart := rl_wsX9_sizeOfGreatestPart_r2 _ (List.mem_of_getElem? (i := 22) rfl)
theorem mw_X9_sizeOfGreatestPart__48 : (.instanceMethod yX2_rankIn : Cond) ∈ wsX9_sizeOfGreatestPart := rl_wsX9_sizeOfGreatestPart_r2 _ (List.mem_of_getElem? (i := 23) rfl)
theorem mw_X9_sizeOfGreatestPart__49 : (.selects RX2 yX2_rankIn yX2_rankIn : Cond) ∈ wsX9_sizeOfGreatestPart := rl_wsX9_sizeOfGreatestPart_r3 _ (List.mem_of_getElem? (i := 0) rfl)
theorem mw_X9_sizeOfGreatestPart__50 : (.initialized RX2 : Cond) ∈ wsX9_sizeOfGreatestPart := rl_wsX9_sizeOfGreatestPart_r3 _ (List.mem_of_getElem? (i := 1) rfl)
theorem mw_X9_sizeOfGreatestPart__51 : (.code yX2_rankIn cX2_rankIn 5 (some .int) : Cond) ∈ wsX9_sizeOfGreatestPart := rl_wsX9_sizeOfGreatestPart_r3 _ (List.mem_of_getElem? (i := 2) rfl)
theorem mw_X9_sizeOfGreatestPart__52 : (.fieldLink RX2 9 "BallPots$Draws" "step" "[I" : Cond) ∈ wsX9_sizeOfGreatestPart := rl_wsX9_sizeOfGreatestPart_r3 _ (List.mem_of_getElem? (i := 3) rfl)
theorem mw_X9_sizeOfGreatestPart__53 : (.fieldLink RX2 34 "BallPots$Draws" "ranks" "LBallPots$Ranks;" : Cond) ∈ wsX9_sizeOfGreatestPart := rl_wsX9_sizeOfGreatestPart_r3 _ (List.mem_of_getElem? (i := 4) rfl)
theorem mw_X9_sizeOfPart__1 : (.fieldLink RX9 61 "BallPots$Swaps" "queued" "I" : Cond) ∈ wsX9_sizeOfPart := List.mem_of_getElem? (i := 1) rfl
theorem mw_X9_sizeOfPart__2 : (.fieldLink RX9 22 "BallPots$Swaps" "draws" "LBallPots$Draws;" : Cond) ∈ wsX9_sizeOfPart := List.mem_of_getElem? (i := 2) rfl
theorem mw_X9_sizeOfPart__3 : (.fieldLink RX9 15 "BallPots$Swaps" "other" "[I" : Cond) ∈ wsX9_sizeOfPart := List.mem_of_getElem? (i := 3) rfl
theorem mw_X9_sizeOfPart__4 : (.methodLink RX9 80 yX9_meet : Cond) ∈ wsX9_sizeOfPart := List.mem_of_getElem? (i := 4) rfl
theorem mw_X9_sizeOfPart__5 : (.instanceMethod yX9_meet : Cond) ∈ wsX9_sizeOfPart := List.mem_of_getElem? (i := 5) rfl
theorem mw_X9_sizeOfPart__6 : (.selects RX9 yX9_meet yX9_meet : Cond) ∈ wsX9_sizeOfPart := List.mem_of_getElem? (i := 6) rfl
theorem mw_X9_sizeOfPart__7 : (.initialized RX9 : Cond) ∈ wsX9_sizeOfPart := List.mem_of_getElem? (i := 7) rfl
theorem mw_X9_sizeOfPart__8 : (.code yX9_meet cX9_meet 2 none : Cond) ∈ wsX9_sizeOfPart := List.mem_of_getElem? (i := 8) rfl
theorem mw_X9_sizeOfPart__9 : (.fieldLink RX9 9 "BallPots$Swaps" "rows" "[I" : Cond) ∈ wsX9_sizeOfPart := List.mem_of_getElem? (i := 9) rfl
theorem mw_X9_sizeOfPart__10 : (.methodLink RX9 84 yX9_meetSwapped : Cond) ∈ wsX9_sizeOfPart := List.mem_of_getElem? (i := 10) rfl
theorem mw_X9_sizeOfPart__11 : (.instanceMethod yX9_meetSwapped : Cond) ∈ wsX9_sizeOfPart := List.mem_of_getElem? (i := 11) rfl
theorem mw_X9_sizeOfPart__12 : (.selects RX9 yX9_meetSwapped yX9_meetSwapped : Cond) ∈ wsX9_sizeOfPart := List.mem_of_getElem? (i := 12) rfl
theorem mw_X9_sizeOfPart__13 : (.code yX9_meetSwapped cX9_meetSwapped 8 none : Cond) ∈ wsX9_sizeOfPart := List.mem_of_getElem? (i := 13) rfl
theorem mw_X9_sizeOfPart__14 : (.fieldLink RX9 32 "BallPots$Swaps" "ranks" "LBallPots$Ranks;" : Cond) ∈ wsX9_sizeOfPart := List.mem_of_getElem? (i := 14) rfl
theorem mw_X9_sizeOfPart__15 : (.methodLink RX9 99 yX2_rankIn : Cond) ∈ wsX9_sizeOfPart := List.mem_of_getElem? (i := 15) rfl
theorem mw_X9_sizeOfPart__16 : (.instanceMethod yX2_rankIn : Cond) ∈ wsX9_sizeOfPart := List.mem_of_getElem? (i := 16) rfl
theorem mw_X9_sizeOfPart__17 : (.selects RX2 yX2_rankIn yX2_rankIn : Cond) ∈ wsX9_sizeOfPart := List.mem_of_getElem? (i := 17) rfl
theorem mw_X9_sizeOfPart__18 : (.initialized RX2 : Cond) ∈ wsX9_sizeOfPart := List.mem_of_getElem? (i := 18) rfl
theorem mw_X9_sizeOfPart__19 : (.code yX2_rankIn cX2_rankIn 5 (some .int) : Cond) ∈ wsX9_sizeOfPart := List.mem_of_getElem? (i := 19) rfl
theorem mw_X9_sizeOfPart__20 : (.fieldLink RX2 9 "BallPots$Draws" "step" "[I" : Cond) ∈ wsX9_sizeOfPart := List.mem_of_getElem? (i := 20) rfl
theorem mw_X9_sizeOfPart__21 : (.fieldLink RX2 34 "BallPots$Draws" "ranks" "LBallPots$Ranks;" : Cond) ∈ wsX9_sizeOfPart := List.mem_of_getElem? (i := 21) rfl
theorem mw_X9_swapOnce__1 : (.fieldLink RX9 15 "BallPots$Swaps" "other" "[I" : Cond) ∈ wsX9_swapOnce := rl_wsX9_swapOnce_r1 _ (List.mem_of_getElem? (i := 0) rfl)
theorem mw_X9_swapOnce__2 : (.fieldLink RX9 22 "BallPots$Swaps" "draws" "LBallPots$Draws;" : Cond) ∈ wsX9_swapOnce := rl_wsX9_swapOnce_r1 _ (List.mem_of_getElem? (i := 1) rfl)
theorem mw_X9_swapOnce__3 : (.fieldLink RX9 9 "BallPots$Swaps" "rows" "[I" : Cond) ∈ wsX9_swapOnce := rl_wsX9_swapOnce_r1 _ (List.mem_of_getElem? (i := 2) rfl)
theorem mw_X9_swapOnce__4 : (.methodLink RX9 52 yJ7_fill_fda19 : Cond) ∈ wsX9_swapOnce := rl_wsX9_swapOnce_r1 _ (List.mem_of_getElem? (i := 3) rfl)
theorem mw_X9_swapOnce__5 : (.static yJ7_fill_fda19 : Cond) ∈ wsX9_swapOnce := rl_wsX9_swapOnce_r1 _ (List.mem_of_getElem? (i := 4) rfl)
theorem mw_X9_swapOnce__6 : (.initialized RJ7 : Cond) ∈ wsX9_swapOnce := rl_wsX9_swapOnce_r1 _ (List.mem_of_getElem? (i := 5) rfl)
theorem mw_X9_swapOnce__7 : (.code yJ7_fill_fda19 cJ7_fill_fda19 5 none : Cond) ∈ wsX9_swapOnce := rl_wsX9_swapOnce_r1 _ (List.mem_of_getElem? (i := 6) rfl)
theorem mw_X9_swapOnce__8 : (.methodLink RJ7 13 yJ7_rangeCheck_23922 : Cond) ∈ wsX9_swapOnce := rl_wsX9_swapOnce_r1 _ (List.mem_of_getElem? (i := 7) rfl)
theorem mw_X9_swapOnce__9 : (.static yJ7_rangeCheck_23922 : Cond) ∈ wsX9_swapOnce := rl_wsX9_swapOnce_r1 _ (List.mem_of_getElem? (i := 8) rfl)
theorem mw_X9_swapOnce__10 : (.code yJ7_rangeCheck_23922 cJ7_rangeCheck_23922 3 none : Cond) ∈ wsX9_swapOnce := rl_wsX9_swapOnce_r1 _ (List.mem_of_getElem? (i := 9) rfl)
theorem mw_X9_swapOnce__11 : (.classLink RJ7 68 RJx00060 : Cond) ∈ wsX9_swapOnce := rl_wsX9_swapOnce_r1 _ (List.mem_of_getElem? (i := 10) rfl)
theorem mw_X9_swapOnce__12 : (.instantiable RJx00060 6 : Cond) ∈ wsX9_swapOnce := rl_wsX9_swapOnce_r1 _ (List.mem_of_getElem? (i := 11) rfl)
theorem mw_X9_swapOnce__13 : (.initialized RJx00060 : Cond) ∈ wsX9_swapOnce := rl_wsX9_swapOnce_r1 _ (List.mem_of_getElem? (i := 12) rfl)
theorem mw_X9_swapOnce__14 : (.methodLink RX9 127 yX9_pass : Cond) ∈ wsX9_swapOnce := rl_wsX9_swapOnce_r1 _ (List.mem_of_getElem? (i := 13) rfl)
theorem mw_X9_swapOnce__15 : (.instanceMethod yX9_pass : Cond) ∈ wsX9_swapOnce := rl_wsX9_swapOnce_r1 _ (List.mem_of_getElem? (i := 14) rfl)
theorem mw_X9_swapOnce__16 : (.selects RX9 yX9_pass yX9_pass : Cond) ∈ wsX9_swapOnce := rl_wsX9_swapOnce_r1 _ (List.mem_of_getElem? (i := 15) rfl)
theorem mw_X9_swapOnce__17 : (.initialized RX9 : Cond) ∈ wsX9_swapOnce := rl_wsX9_swapOnce_r1 _ (List.mem_of_getElem? (i := 16) rfl)
theorem mw_X9_swapOnce__18 : (.code yX9_pass cX9_pass 9 none : Cond) ∈ wsX9_swapOnce := rl_wsX9_swapOnce_r1 _ (List.mem_of_getElem? (i := 17) rfl)
theorem mw_X9_swapOnce__19 : (.fieldLink RX9 32 "BallPots$Swaps" "ranks" "LBallPots$Ranks;" : Cond) ∈ wsX9_swapOnce := rl_wsX9_swapOnce_r1 _ (List.mem_of_getElem? (i := 18) rfl)
theorem mw_X9_swapOnce__20 : (.methodLink RX9 99 yX2_rankIn : Cond) ∈ wsX9_swapOnce := rl_wsX9_swapOnce_r1 _ (List.mem_of_getElem? (i := 19) rfl)
theorem mw_X9_swapOnce__21 : (.instanceMethod yX2_rankIn : Cond) ∈ wsX9_swapOnce := rl_wsX9_swapOnce_r1 _ (List.mem_of_getElem? (i := 20) rfl)
theorem mw_X9_swapOnce__22 : (.selects RX2 yX2_rankIn yX2_rankIn : Cond) ∈ wsX9_swapOnce := rl_wsX9_swapOnce_r1 _ (List.mem_of_getElem? (i := 21) rfl)
theorem mw_X9_swapOnce__23 : (.initialized RX2 : Cond) ∈ wsX9_swapOnce := rl_wsX9_swapOnce_r1 _ (List.mem_of_getElem? (i := 22) rfl)
theorem mw_X9_swapOnce__24 : (.code yX2_rankIn cX2_rankIn 5 (some .int) : Cond) ∈ wsX9_swapOnce := rl_wsX9_swapOnce_r1 _ (List.mem_of_getElem? (i := 23) rfl)
theorem mw_X9_swapOnce__25 : (.fieldLink RX2 9 "BallPots$Draws" "step" "[I" : Cond) ∈ wsX9_swapOnce := rl_wsX9_swapOnce_r2 _ (List.mem_of_getElem? (i := 0) rfl)
theorem mw_X9_swapOnce__26 : (.fieldLink RX2 34 "BallPots$Draws" "ranks" "LBallPots$Ranks;" : Cond) ∈ wsX9_swapOnce := rl_wsX9_swapOnce_r2 _ (List.mem_of_getElem? (i := 1) rfl)
theorem mw_X9_swapTimes__1 : (.fieldLink RX9 18 "BallPots$Swaps" "done" "I" : Cond) ∈ wsX9_swapTimes := rl_wsX9_swapTimes_r1 _ (List.mem_of_getElem? (i := 0) rfl)
theorem mw_X9_swapTimes__2 : (.fieldLink RX9 9 "BallPots$Swaps" "rows" "[I" : Cond) ∈ wsX9_swapTimes := rl_wsX9_swapTimes_r1 _ (List.mem_of_getElem? (i := 1) rfl)
theorem mw_X9_swapTimes__3 : (.fieldLink RX9 22 "BallPots$Swaps" "draws" "LBallPots$Draws;" : Cond) ∈ wsX9_swapTimes := rl_wsX9_swapTimes_r1 _ (List.mem_of_getElem? (i := 2) rfl)
theorem mw_X9_swapTimes__4 : (.methodLink RX9 58 yX9_clearRows : Cond) ∈ wsX9_swapTimes := rl_wsX9_swapTimes_r1 _ (List.mem_of_getElem? (i := 3) rfl)
theorem mw_X9_swapTimes__5 : (.instanceMethod yX9_clearRows : Cond) ∈ wsX9_swapTimes := rl_wsX9_swapTimes_r1 _ (List.mem_of_getElem? (i := 4) rfl)
theorem mw_X9_swapTimes__6 : (.selects RX9 yX9_clearRows yX9_clearRows : Cond) ∈ wsX9_swapTimes := rl_wsX9_swapTimes_r1 _ (List.mem_of_getElem? (i := 5) rfl)
theorem mw_X9_swapTimes__7 : (.initialized RX9 : Cond) ∈ wsX9_swapTimes := rl_wsX9_swapTimes_r1 _ (List.mem_of_getElem? (i := 6) rfl)
theorem mw_X9_swapTimes__8 : (.code yX9_clearRows cX9_clearRows 1 none : Cond) ∈ wsX9_swapTimes := rl_wsX9_swapTimes_r1 _ (List.mem_of_getElem? (i := 7) rfl)
theorem mw_X9_swapTimes__9 : (.arrayClass .int : Cond) ∈ wsX9_swapTimes := rl_wsX9_swapTimes_r1 _ (List.mem_of_getElem? (i := 8) rfl)
theorem mw_X9_swapTimes__10 : (.fieldLink RX9 15 "BallPots$Swaps" "other" "[I" : Cond) ∈ wsX9_swapTimes := rl_wsX9_swapTimes_r1 _ (List.mem_of_getElem? (i := 9) rfl)
theorem mw_X9_swapTimes__11 : (.methodLink RX9 52 yJ7_fill_fda19 : Cond) ∈ wsX9_swapTimes := rl_wsX9_swapTimes_r1 _ (List.mem_of_getElem? (i := 10) rfl)
theorem mw_X9_swapTimes__12 : (.static yJ7_fill_fda19 : Cond) ∈ wsX9_swapTimes := rl_wsX9_swapTimes_r1 _ (List.mem_of_getElem? (i := 11) rfl)
theorem mw_X9_swapTimes__13 : (.initialized RJ7 : Cond) ∈ wsX9_swapTimes := rl_wsX9_swapTimes_r1 _ (List.mem_of_getElem? (i := 12) rfl)
theorem mw_X9_swapTimes__14 : (.code yJ7_fill_fda19 cJ7_fill_fda19 5 none : Cond) ∈ wsX9_swapTimes := rl_wsX9_swapTimes_r1 _ (List.mem_of_getElem? (i := 13) rfl)
theorem mw_X9_swapTimes__15 : (.methodLink RJ7 13 yJ7_rangeCheck_23922 : Cond) ∈ wsX9_swapTimes := rl_wsX9_swapTimes_r1 _ (List.mem_of_getElem? (i := 14) rfl)
theorem mw_X9_swapTimes__16 : (.static yJ7_rangeCheck_23922 : Cond) ∈ wsX9_swapTimes := rl_wsX9_swapTimes_r1 _ (List.mem_of_getElem? (i := 15) rfl)
theorem mw_X9_swapTimes__17 : (.code yJ7_rangeCheck_23922 cJ7_rangeCheck_23922 3 none : Cond) ∈ wsX9_swapTimes := rl_wsX9_swapTimes_r1 _ (List.mem_of_getElem? (i := 16) rfl)
theorem mw_X9_swapTimes__18 : (.classLink RJ7 68 RJx00060 : Cond) ∈ wsX9_swapTimes := rl_wsX9_swapTimes_r1 _ (List.mem_of_getElem? (i := 17) rfl)
theorem mw_X9_swapTimes__19 : (.instantiable RJx00060 6 : Cond) ∈ wsX9_swapTimes := rl_wsX9_swapTimes_r1 _ (List.mem_of_getElem? (i := 18) rfl)
theorem mw_X9_swapTimes__20 : (.initialized RJx00060 : Cond) ∈ wsX9_swapTimes := rl_wsX9_swapTimes_r1 _ (List.mem_of_getElem? (i := 19) rfl)
theorem mw_X9_swapTimes__21 : (.methodLink RX9 124 yX9_swapOnce : Cond) ∈ wsX9_swapTimes := rl_wsX9_swapTimes_r1 _ (List.mem_of_getElem? (i := 20) rfl)
theorem mw_X9_swapTimes__22 : (.instanceMethod yX9_swapOnce : Cond) ∈ wsX9_swapTimes := rl_wsX9_swapTimes_r1 _ (List.mem_of_getElem? (i := 21) rfl)
theorem mw_X9_swapTimes__23 : (.selects RX9 yX9_swapOnce yX9_swapOnce : Cond) ∈ wsX9_swapTimes := rl_wsX9_swapTimes_r1 _ (List.mem_of_getElem? (i := 22) rfl)
theorem mw_X9_swapTimes__24 : (.code yX9_swapOnce cX9_swapOnce 3 none : Cond) ∈ wsX9_swapTimes := rl_wsX9_swapTimes_r1 _ (List.mem_of_getElem? (i := 23) rfl)
theorem mw_X9_swapTimes__25 : (.methodLink RX9 127 yX9_pass : Cond) ∈ wsX9_swapTimes := rl_wsX9_swapTimes_r2 _ (List.mem_of_getElem? (i := 0) rfl)
theorem mw_X9_swapTimes__26 : (.instanceMethod yX9_pass : Cond) ∈ wsX9_swapTimes := rl_wsX9_swapTimes_r2 _ (List.mem_of_getElem? (i := 1) rfl)
theorem mw_X9_swapTimes__27 : (.selects RX9 yX9_pass yX9_pass : Cond) ∈ wsX9_swapTimes := rl_wsX9_swapTimes_r2 _ (List.mem_of_getElem? (i := 2) rfl)
theorem mw_X9_swapTimes__28 : (.code yX9_pass cX9_pass 9 none : Cond) ∈ wsX9_swapTimes := rl_wsX9_swapTimes_r2 _ (List.mem_of_getElem? (i := 3) rfl)
theorem mw_X9_swapTimes__29 : (.fieldLink RX9 32 "BallPots$Swaps" "ranks" "LBallPots$Ranks;" : Cond) ∈ wsX9_swapTimes := rl_wsX9_swapTimes_r2 _ (List.mem_of_getElem? (i := 4) rfl)
theorem mw_X9_swapTimes__30 : (.methodLink RX9 99 yX2_rankIn : Cond) ∈ wsX9_swapTimes := rl_wsX9_swapTimes_r2 _ (List.mem_of_getElem? (i := 5) rfl)
theorem mw_X9_swapTimes__31 : (.instanceMethod yX2_rankIn : Cond) ∈ wsX9_swapTimes := rl_wsX9_swapTimes_r2 _ (List.mem_of_getElem? (i := 6) rfl)
theorem mw_X9_swapTimes__32 : (.selects RX2 yX2_rankIn yX2_rankIn : Cond) ∈ wsX9_swapTimes := rl_wsX9_swapTimes_r2 _ (List.mem_of_getElem? (i := 7) rfl)
theorem mw_X9_swapTimes__33 : (.initialized RX2 : Cond) ∈ wsX9_swapTimes := rl_wsX9_swapTimes_r2 _ (List.mem_of_getElem? (i := 8) rfl)
theorem mw_X9_swapTimes__34 : (.code yX2_rankIn cX2_rankIn 5 (some .int) : Cond) ∈ wsX9_swapTimes := rl_wsX9_swapTimes_r2 _ (List.mem_of_getElem? (i := 9) rfl)
theorem mw_X9_swapTimes__35 : (.fieldLink RX2 9 "BallPots$Draws" "step" "[I" : Cond) ∈ wsX9_swapTimes := rl_wsX9_swapTimes_r2 _ (List.mem_of_getElem? (i := 10) rfl)
theorem mw_X9_swapTimes__36 : (.fieldLink RX2 34 "BallPots$Draws" "ranks" "LBallPots$Ranks;" : Cond) ∈ wsX9_swapTimes := rl_wsX9_swapTimes_r2 _ (List.mem_of_getElem? (i := 11) rfl)
theorem mw_X9_uneven__1 : (.fieldLink RX9 22 "BallPots$Swaps" "draws" "LBallPots$Draws;" : Cond) ∈ wsX9_uneven := rl_wsX9_uneven_r1 _ (List.mem_of_getElem? (i := 0) rfl)
theorem mw_X9_uneven__2 : (.fieldLink RX9 9 "BallPots$Swaps" "rows" "[I" : Cond) ∈ wsX9_uneven := rl_wsX9_uneven_r1 _ (List.mem_of_getElem? (i := 1) rfl)
theorem mw_X9_uneven__3 : (.methodLink RX9 120 Lib.MathLoose.abs_long.x : Cond) ∈ wsX9_uneven := rl_wsX9_uneven_r1 _ (List.mem_of_getElem? (i := 2) rfl)
theorem mw_X9_uneven__4 : (.static Lib.MathLoose.abs_long.x : Cond) ∈ wsX9_uneven := rl_wsX9_uneven_r1 _ (List.mem_of_getElem? (i := 3) rfl)
theorem mw_X9_uneven__5 : (.initialized "java/lang/Math" : Cond) ∈ wsX9_uneven := rl_wsX9_uneven_r1 _ (List.mem_of_getElem? (i := 4) rfl)
theorem mw_X9_uneven__6 : (.code Lib.MathLoose.abs_long.x Lib.MathLoose.abs_long.code 2 (some .long) : Cond) ∈ wsX9_uneven := rl_wsX9_uneven_r1 _ (List.mem_of_getElem? (i := 5) rfl)
theorem mw_X9_uneven__7 : (.methodLink RX9 113 yX9_swapTimes : Cond) ∈ wsX9_uneven := rl_wsX9_uneven_r1 _ (List.mem_of_getElem? (i := 6) rfl)
theorem mw_X9_uneven__8 : (.instanceMethod yX9_swapTimes : Cond) ∈ wsX9_uneven := rl_wsX9_uneven_r1 _ (List.mem_of_getElem? (i := 7) rfl)
theorem mw_X9_uneven__9 : (.selects RX9 yX9_swapTimes yX9_swapTimes : Cond) ∈ wsX9_uneven := rl_wsX9_uneven_r1 _ (List.mem_of_getElem? (i := 8) rfl)
theorem mw_X9_uneven__10 : (.initialized RX9 : Cond) ∈ wsX9_uneven := rl_wsX9_uneven_r1 _ (List.mem_of_getElem? (i := 9) rfl)
theorem mw_X9_uneven__11 : (.code yX9_swapTimes cX9_swapTimes 3 none : Cond) ∈ wsX9_uneven := rl_wsX9_uneven_r1 _ (List.mem_of_getElem? (i := 10) rfl)
theorem mw_X9_uneven__12 : (.fieldLink RX9 18 "BallPots$Swaps" "done" "I" : Cond) ∈ wsX9_uneven := rl_wsX9_uneven_r1 _ (List.mem_of_getElem? (i := 11) rfl)
theorem mw_X9_uneven__13 : (.methodLink RX9 58 yX9_clearRows : Cond) ∈ wsX9_uneven := rl_wsX9_uneven_r1 _ (List.mem_of_getElem? (i := 12) rfl)
theorem mw_X9_uneven__14 : (.instanceMethod yX9_clearRows : Cond) ∈ wsX9_uneven := rl_wsX9_uneven_r1 _ (List.mem_of_getElem? (i := 13) rfl)
theorem mw_X9_uneven__15 : (.selects RX9 yX9_clearRows yX9_clearRows : Cond) ∈ wsX9_uneven := rl_wsX9_uneven_r1 _ (List.mem_of_getElem? (i := 14) rfl)
theorem mw_X9_uneven__16 : (.code yX9_clearRows cX9_clearRows 1 none : Cond) ∈ wsX9_uneven := rl_wsX9_uneven_r1 _ (List.mem_of_getElem? (i := 15) rfl)
theorem mw_X9_uneven__17 : (.arrayClass .int : Cond) ∈ wsX9_uneven := rl_wsX9_uneven_r1 _ (List.mem_of_getElem? (i := 16) rfl)
theorem mw_X9_uneven__18 : (.fieldLink RX9 15 "BallPots$Swaps" "other" "[I" : Cond) ∈ wsX9_uneven := rl_wsX9_uneven_r1 _ (List.mem_of_getElem? (i := 17) rfl)
theorem mw_X9_uneven__19 : (.methodLink RX9 52 yJ7_fill_fda19 : Cond) ∈ wsX9_uneven := rl_wsX9_uneven_r1 _ (List.mem_of_getElem? (i := 18) rfl)
theorem mw_X9_uneven__20 : (.static yJ7_fill_fda19 : Cond) ∈ wsX9_uneven := rl_wsX9_uneven_r1 _ (List.mem_of_getElem? (i := 19) rfl)
theorem mw_X9_uneven__21 : (.initialized RJ7 : Cond) ∈ wsX9_uneven := rl_wsX9_uneven_r1 _ (List.mem_of_getElem? (i := 20) rfl)
theorem mw_X9_uneven__22 : (.code yJ7_fill_fda19 cJ7_fill_fda19 5 none : Cond) ∈ wsX9_uneven := rl_wsX9_uneven_r1 _ (List.mem_of_getElem? (i := 21) rfl)
theorem mw_X9_uneven__23 : (.methodLink RJ7 13 yJ7_rangeCheck_23922 : Cond) ∈ wsX9_uneven := rl_wsX9_uneven_r1 _ (List.mem_of_getElem? (i := 22) rfl)
theorem mw_X9_uneven__24 : (.static yJ7_rangeCheck_23922 : Cond) ∈ wsX9_uneven := rl_wsX9_uneven_r1 _ (List.mem_of_getElem? (i := 23) rfl)
theorem mw_X9_uneven__25 : (.code yJ7_rangeCheck_23922 cJ7_rangeCheck_23922 3 none : Cond) ∈ wsX9_uneven := rl_wsX9_uneven_r2 _ (List.mem_of_getElem? (i := 0) rfl)
theorem mw_X9_uneven__26 : (.classLink RJ7 68 RJx00060 : Cond) ∈ wsX9_uneven := rl_wsX9_uneven_r2 _ (List.mem_of_getElem? (i := 1) rfl)
theorem mw_X9_uneven__27 : (.instantiable RJx00060 6 : Cond) ∈ wsX9_uneven := rl_wsX9_uneven_r2 _ (List.mem_of_getElem? (i := 2) rfl)
theorem mw_X9_uneven__28 : (.initialized RJx00060 : Cond) ∈ wsX9_uneven := rl_wsX9_uneven_r2 _ (List.mem_of_getElem? (i := 3) rfl)
theorem mw_X9_uneven__29 : (.methodLink RX9 124 yX9_swapOnce : Cond) ∈ wsX9_uneven := rl_wsX9_uneven_r2 _ (List.mem_of_getElem? (i := 4) rfl)
theorem mw_X9_uneven__30 : (.instanceMethod yX9_swapOnce : Cond) ∈ wsX9_uneven := rl_wsX9_uneven_r2 _ (List.mem_of_getElem? (i := 5) rfl)
theorem mw_X9_uneven__31 : (.selects RX9 yX9_swapOnce yX9_swapOnce : Cond) ∈ wsX9_uneven := rl_wsX9_uneven_r2 _ (List.mem_of_getElem? (i := 6) rfl)
theorem mw_X9_uneven__32 : (.code yX9_swapOnce cX9_swapOnce 3 none : Cond) ∈ wsX9_uneven := rl_wsX9_uneven_r2 _ (List.mem_of_getElem? (i := 7) rfl)
theorem mw_X9_uneven__33 : (.methodLink RX9 127 yX9_pass : Cond) ∈ wsX9_uneven := rl_wsX9_uneven_r2 _ (List.mem_of_getElem? (i := 8) rfl)
theorem mw_X9_uneven__34 : (.instanceMethod yX9_pass : Cond) ∈ wsX9_uneven := rl_wsX9_uneven_r2 _ (List.mem_of_getElem? (i := 9) rfl)
theorem mw_X9_uneven__35 : (.selects RX9 yX9_pass yX9_pass : Cond) ∈ wsX9_uneven := rl_wsX9_uneven_r2 _ (List.mem_of_getElem? (i := 10) rfl)
theorem mw_X9_uneven__36 : (.code yX9_pass cX9_pass 9 none : Cond) ∈ wsX9_uneven := rl_wsX9_uneven_r2 _ (List.mem_of_getElem? (i := 11) rfl)
theorem mw_X9_uneven__37 : (.fieldLink RX9 32 "BallPots$Swaps" "ranks" "LBallPots$Ranks;" : Cond) ∈ wsX9_uneven := rl_wsX9_uneven_r2 _ (List.mem_of_getElem? (i := 12) rfl)
theorem mw_X9_uneven__38 : (.methodLink RX9 99 yX2_rankIn : Cond) ∈ wsX9_uneven := rl_wsX9_uneven_r2 _ (List.mem_of_getElem? (i := 13) rfl)
theorem mw_X9_uneven__39 : (.instanceMethod yX2_rankIn : Cond) ∈ wsX9_uneven := rl_wsX9_uneven_r2 _ (List.mem_of_getElem? (i := 14) rfl)
theorem mw_X9_uneven__40 : (.selects RX2 yX2_rankIn yX2_rankIn : Cond) ∈ wsX9_uneven := rl_wsX9_uneven_r2 _ (List.mem_of_getElem? (i := 15) rfl)
theorem mw_X9_uneven__41 : (.initialized RX2 : Cond) ∈ wsX9_uneven := rl_wsX9_uneven_r2 _ (List.mem_of_getElem? (i := 16) rfl)
theorem mw_X9_uneven__42 : (.code yX2_rankIn cX2_rankIn 5 (some .int) : Cond) ∈ wsX9_uneven := rl_wsX9_uneven_r2 _ (List.mem_of_getElem? (i := 17) rfl)
theorem mw_X9_uneven__43 : (.fieldLink RX2 9 "BallPots$Draws" "step" "[I" : Cond) ∈ wsX9_uneven := rl_wsX9_uneven_r2 _ (List.mem_of_getElem? (i := 18) rfl)
theorem mw_X9_uneven__44 : (.fieldLink RX2 34 "BallPots$Draws" "ranks" "LBallPots$Ranks;" : Cond) ∈ wsX9_uneven := rl_wsX9_uneven_r2 _ (List.mem_of_getElem? (i := 19) rfl)
theorem mw_X9_uneven__45 : (.methodLink RX9 116 yX9_allRows : Cond) ∈ wsX9_uneven := rl_wsX9_uneven_r2 _ (List.mem_of_getElem? (i := 20) rfl)
theorem mw_X9_uneven__46 : (.instanceMethod yX9_allRows : Cond) ∈ wsX9_uneven := rl_wsX9_uneven_r2 _ (List.mem_of_getElem? (i := 21) rfl)
theorem mw_X9_uneven__47 : (.selects RX9 yX9_allRows yX9_allRows : Cond) ∈ wsX9_uneven := rl_wsX9_uneven_r2 _ (List.mem_of_getElem? (i := 22) rfl)
theorem mw_X9_uneven__48 : (.code yX9_allRows cX9_allRows 7 (some .long) : Cond) ∈ wsX9_uneven := rl_wsX9_uneven_r2 _ (List.mem_of_getElem? (i := 23) rfl)
set_option maxRecDepth 20000 in
theorem fd_X0 : ∀ j, j < 5 → defaultValue (tyX0 j) = vp_V [.null, .null, .null, .null, .int 0] j := by decide +kernel
set_option maxRecDepth 20000 in
theorem fd_X1 : ∀ j, j < 4 → defaultValue (tyX1 j) = vp_V [.null, .null, .long 0, .int 0] j := by decide +kernel
set_option maxRecDepth 20000 in
theorem fd_X10 : ∀ j, j < 5 → defaultValue (tyX10 j) = vp_V [.null, .null, .null, .null, .int 0] j := by decide +kernel
set_option maxRecDepth 20000 in
theorem fd_X2 : ∀ j, j < 10 → defaultValue (tyX2 j) = vp_V [.null, .null, .int 0, .int 0, .null, .null, .null, .null, .null, .null] j := by decide +kernel
set_option maxRecDepth 20000 in
theorem fd_X3 : ∀ j, j < 11 → defaultValue (tyX3 j) = vp_V [.int 0, .int 0, .int 0, .int 0, .int 0, .null, .null, .null, .null, .null, .int 0] j := by decide +kernel
set_option maxRecDepth 20000 in
theorem fd_X4 : ∀ j, j < 9 → defaultValue (tyX4 j) = vp_V [.int 0, .int 0, .int 0, .int 0, .null, .null, .null, .null, .null] j := by decide +kernel
set_option maxRecDepth 20000 in
theorem fd_X5 : ∀ j, j < 9 → defaultValue (tyX5 j) = vp_V [.null, .null, .int 0, .int 0, .int 0, .int 0, .int 0, .int 0, .int 0] j := by decide +kernel
set_option maxRecDepth 20000 in
theorem fd_X6 : ∀ j, j < 10 → defaultValue (tyX6 j) = vp_V [.null, .null, .null, .null, .null, .null, .int 0, .int 0, .int 0, .int 0] j := by decide +kernel
set_option maxRecDepth 20000 in
theorem fd_X7 : ∀ j, j < 6 → defaultValue (tyX7 j) = vp_V [.null, .int 0, .null, .null, .null, .null] j := by decide +kernel
set_option maxRecDepth 20000 in
theorem fd_X8 : ∀ j, j < 8 → defaultValue (tyX8 j) = vp_V [.null, .null, .null, .null, .null, .null, .int 0, .null] j := by decide +kernel
set_option maxRecDepth 20000 in
theorem fd_X9 : ∀ j, j < 10 → defaultValue (tyX9 j) = vp_V [.null, .null, .null, .null, .int 0, .int 0, .int 0, .int 0, .int 0, .int 0] j := by decide +kernel
theorem gd_Jx00060 : wsJx000600.all goodWord = true := by decide +kernel
theorem gd_X0 : wsX00.all goodWord = true := by decide +kernel
theorem gd_X1 : wsX10.all goodWord = true := by decide +kernel
theorem gd_X10 : wsX100.all goodWord = true := by decide +kernel
theorem gd_X11 : wsX110.all goodWord = true := by decide +kernel
theorem gd_X12 : wsX120.all goodWord = true := by decide +kernel
theorem gd_X2 : wsX20.all goodWord = true := by decide +kernel
theorem gd_X3 : wsX30.all goodWord = true := by decide +kernel
theorem gd_X4 : wsX40.all goodWord = true := by decide +kernel
theorem gd_X5 : wsX50.all goodWord = true := by decide +kernel
theorem gd_X6 : wsX60.all goodWord = true := by decide +kernel
theorem gd_X7 : wsX70.all goodWord = true := by decide +kernel
theorem gd_X8 : wsX80.all goodWord = true := by decide +kernel
theorem gd_X9 : wsX90.all goodWord = true := by decide +kernel
theorem iw_J7_fill_fda19__Jx00060 : ∀ w ∈ wsJx000600, w ∈ wsJ7_fill_fda19 := fun _ h => List.mem_cons_of_mem _ (List.mem_append_right _ h)
theorem iw_X0_init__X0 : ∀ w ∈ wsX00, w ∈ wsX0_init := fun _ h => List.mem_cons_of_mem _ (List.mem_append_left _ (List.mem_append_right _ h))
theorem iw_X0_init__X2 : ∀ w ∈ wsX20, w ∈ wsX0_init := fun _ h => List.mem_cons_of_mem _ (List.mem_append_right _ h)
theorem iw_X0_isEvenEnough__X0 : ∀ w ∈ wsX00, w ∈ wsX0_isEvenEnough := fun _ h => List.mem_cons_of_mem _ (List.mem_append_left _ (List.mem_append_left _ (List.mem_append_left _ (List.mem_append_right _ h))))
theorem iw_X0_isEvenEnough__X2 : ∀ w ∈ wsX20, w ∈ wsX0_isEvenEnough := fun _ h => List.mem_cons_of_mem _ (List.mem_append_left _ (List.mem_append_left _ (List.mem_append_right _ h)))
theorem iw_X0_isEvenEnough__X3 : ∀ w ∈ wsX30, w ∈ wsX0_isEvenEnough := fun _ h => List.mem_cons_of_mem _ (List.mem_append_left _ (List.mem_append_right _ h))
theorem iw_X10_build__X10 : ∀ w ∈ wsX100, w ∈ wsX10_build := fun _ h => List.mem_cons_of_mem _ (List.mem_append_left _ (List.mem_append_left _ (List.mem_append_left _ (List.mem_append_right _ h))))
theorem iw_X10_build__X2 : ∀ w ∈ wsX20, w ∈ wsX10_build := fun _ h => List.mem_cons_of_mem _ (List.mem_append_left _ (List.mem_append_left _ (List.mem_append_right _ h)))
theorem iw_X10_build__X3 : ∀ w ∈ wsX30, w ∈ wsX10_build := fun _ h => List.mem_cons_of_mem _ (List.mem_append_left _ (List.mem_append_right _ h))
theorem iw_X10_init__X10 : ∀ w ∈ wsX100, w ∈ wsX10_init := fun _ h => List.mem_cons_of_mem _ (List.mem_append_right _ h)
theorem iw_X11_all__Jx00060 : ∀ w ∈ wsJx000600, w ∈ wsX11_all := fun _ h => List.mem_cons_of_mem _ (List.mem_append_right _ h)
theorem iw_X11_all__X1 : ∀ w ∈ wsX10, w ∈ wsX11_all := fun _ h => List.mem_cons_of_mem _ (List.mem_append_left _ (List.mem_append_left _ (List.mem_append_left _ (List.mem_append_left _ (List.mem_append_left _ (List.mem_append_left _ (List.mem_append_left _ (List.mem_append_right _ h))))))))
theorem iw_X11_all__X10 : ∀ w ∈ wsX100, w ∈ wsX11_all := fun _ h => List.mem_cons_of_mem _ (List.mem_append_left _ (List.mem_append_right _ h))
theorem iw_X11_all__X11 : ∀ w ∈ wsX110, w ∈ wsX11_all := fun _ h => List.mem_cons_of_mem _ (List.mem_append_left _ (List.mem_append_left _ (List.mem_append_left _ (List.mem_append_left _ (List.mem_append_left _ (List.mem_append_left _ (List.mem_append_left _ (List.mem_append_left _ (List.mem_append_left _ (List.mem_append_right _ h))))))))))
theorem iw_X11_all__X2 : ∀ w ∈ wsX20, w ∈ wsX11_all := fun _ h => List.mem_cons_of_mem _ (List.mem_append_left _ (List.mem_append_left _ (List.mem_append_left _ (List.mem_append_left _ (List.mem_append_left _ (List.mem_append_left _ (List.mem_append_left _ (List.mem_append_left _ (List.mem_append_right _ h)))))))))
theorem iw_X11_all__X3 : ∀ w ∈ wsX30, w ∈ wsX11_all := fun _ h => List.mem_cons_of_mem _ (List.mem_append_left _ (List.mem_append_left _ (List.mem_append_left _ (List.mem_append_right _ h))))
theorem iw_X11_all__X4 : ∀ w ∈ wsX40, w ∈ wsX11_all := fun _ h => List.mem_cons_of_mem _ (List.mem_append_left _ (List.mem_append_left _ (List.mem_append_left _ (List.mem_append_left _ (List.mem_append_right _ h)))))
theorem iw_X11_all__X6 : ∀ w ∈ wsX60, w ∈ wsX11_all := fun _ h => List.mem_cons_of_mem _ (List.mem_append_left _ (List.mem_append_left _ (List.mem_append_left _ (List.mem_append_left _ (List.mem_append_left _ (List.mem_append_right _ h))))))
theorem iw_X11_all__X7 : ∀ w ∈ wsX70, w ∈ wsX11_all := fun _ h => List.mem_cons_of_mem _ (List.mem_append_left _ (List.mem_append_left _ (List.mem_append_right _ h)))
theorem iw_X11_all__X8 : ∀ w ∈ wsX80, w ∈ wsX11_all := fun _ h => List.mem_cons_of_mem _ (List.mem_append_left _ (List.mem_append_left _ (List.mem_append_left _ (List.mem_append_left _ (List.mem_append_left _ (List.mem_append_left _ (List.mem_append_right _ h)))))))
theorem iw_X11_apartByArrangement__Jx00060 : ∀ w ∈ wsJx000600, w ∈ wsX11_apartByArrangement := fun _ h => List.mem_cons_of_mem _ (List.mem_append_right _ h)
theorem iw_X11_apartByArrangement__X1 : ∀ w ∈ wsX10, w ∈ wsX11_apartByArrangement := fun _ h => List.mem_cons_of_mem _ (List.mem_append_left _ (List.mem_append_right _ h))
theorem iw_X11_apartByArrangement__X10 : ∀ w ∈ wsX100, w ∈ wsX11_apartByArrangement := fun _ h => List.mem_cons_of_mem _ (List.mem_append_left _ (List.mem_append_left _ (List.mem_append_left _ (List.mem_append_left _ (List.mem_append_right _ h)))))
theorem iw_X11_apartByArrangement__X11 : ∀ w ∈ wsX110, w ∈ wsX11_apartByArrangement := fun _ h => List.mem_cons_of_mem _ (List.mem_append_left _ (List.mem_append_left _ (List.mem_append_left _ (List.mem_append_left _ (List.mem_append_left _ (List.mem_append_left _ (List.mem_append_left _ (List.mem_append_left _ (List.mem_append_left _ (List.mem_append_right _ h))))))))))
theorem iw_X11_apartByArrangement__X2 : ∀ w ∈ wsX20, w ∈ wsX11_apartByArrangement := fun _ h => List.mem_cons_of_mem _ (List.mem_append_left _ (List.mem_append_left _ (List.mem_append_right _ h)))
theorem iw_X11_apartByArrangement__X3 : ∀ w ∈ wsX30, w ∈ wsX11_apartByArrangement := fun _ h => List.mem_cons_of_mem _ (List.mem_append_left _ (List.mem_append_left _ (List.mem_append_left _ (List.mem_append_left _ (List.mem_append_left _ (List.mem_append_left _ (List.mem_append_right _ h)))))))
theorem iw_X11_apartByArrangement__X4 : ∀ w ∈ wsX40, w ∈ wsX11_apartByArrangement := fun _ h => List.mem_cons_of_mem _ (List.mem_append_left _ (List.mem_append_left _ (List.mem_append_left _ (List.mem_append_left _ (List.mem_append_left _ (List.mem_append_left _ (List.mem_append_left _ (List.mem_append_right _ h))))))))
theorem iw_X11_apartByArrangement__X6 : ∀ w ∈ wsX60, w ∈ wsX11_apartByArrangement := fun _ h => List.mem_cons_of_mem _ (List.mem_append_left _ (List.mem_append_left _ (List.mem_append_left _ (List.mem_append_left _ (List.mem_append_left _ (List.mem_append_left _ (List.mem_append_left _ (List.mem_append_left _ (List.mem_append_right _ h)))))))))
theorem iw_X11_apartByArrangement__X7 : ∀ w ∈ wsX70, w ∈ wsX11_apartByArrangement := fun _ h => List.mem_cons_of_mem _ (List.mem_append_left _ (List.mem_append_left _ (List.mem_append_left _ (List.mem_append_left _ (List.mem_append_left _ (List.mem_append_right _ h))))))
theorem iw_X11_apartByArrangement__X8 : ∀ w ∈ wsX80, w ∈ wsX11_apartByArrangement := fun _ h => List.mem_cons_of_mem _ (List.mem_append_left _ (List.mem_append_left _ (List.mem_append_left _ (List.mem_append_right _ h))))
theorem iw_X11_apartByOrder__Jx00060 : ∀ w ∈ wsJx000600, w ∈ wsX11_apartByOrder := fun _ h => List.mem_cons_of_mem _ (List.mem_append_right _ h)
theorem iw_X11_apartByOrder__X1 : ∀ w ∈ wsX10, w ∈ wsX11_apartByOrder := fun _ h => List.mem_cons_of_mem _ (List.mem_append_left _ (List.mem_append_right _ h))
theorem iw_X11_apartByOrder__X10 : ∀ w ∈ wsX100, w ∈ wsX11_apartByOrder := fun _ h => List.mem_cons_of_mem _ (List.mem_append_left _ (List.mem_append_left _ (List.mem_append_left _ (List.mem_append_left _ (List.mem_append_left _ (List.mem_append_left _ (List.mem_append_left _ (List.mem_append_right _ h))))))))
theorem iw_X11_apartByOrder__X11 : ∀ w ∈ wsX110, w ∈ wsX11_apartByOrder := fun _ h => List.mem_cons_of_mem _ (List.mem_append_left _ (List.mem_append_left _ (List.mem_append_left _ (List.mem_append_left _ (List.mem_append_left _ (List.mem_append_left _ (List.mem_append_left _ (List.mem_append_left _ (List.mem_append_left _ (List.mem_append_right _ h))))))))))
theorem iw_X11_apartByOrder__X2 : ∀ w ∈ wsX20, w ∈ wsX11_apartByOrder := fun _ h => List.mem_cons_of_mem _ (List.mem_append_left _ (List.mem_append_left _ (List.mem_append_left _ (List.mem_append_left _ (List.mem_append_left _ (List.mem_append_left _ (List.mem_append_right _ h)))))))
theorem iw_X11_apartByOrder__X3 : ∀ w ∈ wsX30, w ∈ wsX11_apartByOrder := fun _ h => List.mem_cons_of_mem _ (List.mem_append_left _ (List.mem_append_left _ (List.mem_append_left _ (List.mem_append_left _ (List.mem_append_left _ (List.mem_append_right _ h))))))
theorem iw_X11_apartByOrder__X4 : ∀ w ∈ wsX40, w ∈ wsX11_apartByOrder := fun _ h => List.mem_cons_of_mem _ (List.mem_append_left _ (List.mem_append_left _ (List.mem_append_left _ (List.mem_append_left _ (List.mem_append_right _ h)))))
theorem iw_X11_apartByOrder__X6 : ∀ w ∈ wsX60, w ∈ wsX11_apartByOrder := fun _ h => List.mem_cons_of_mem _ (List.mem_append_left _ (List.mem_append_left _ (List.mem_append_left _ (List.mem_append_right _ h))))
theorem iw_X11_apartByOrder__X7 : ∀ w ∈ wsX70, w ∈ wsX11_apartByOrder := fun _ h => List.mem_cons_of_mem _ (List.mem_append_left _ (List.mem_append_left _ (List.mem_append_right _ h)))
theorem iw_X11_apartByOrder__X8 : ∀ w ∈ wsX80, w ∈ wsX11_apartByOrder := fun _ h => List.mem_cons_of_mem _ (List.mem_append_left _ (List.mem_append_left _ (List.mem_append_left _ (List.mem_append_left _ (List.mem_append_left _ (List.mem_append_left _ (List.mem_append_left _ (List.mem_append_left _ (List.mem_append_right _ h)))))))))
theorem iw_X11_apart__Jx00060 : ∀ w ∈ wsJx000600, w ∈ wsX11_apart := fun _ h => List.mem_cons_of_mem _ (List.mem_append_right _ h)
theorem iw_X11_apart__X1 : ∀ w ∈ wsX10, w ∈ wsX11_apart := fun _ h => List.mem_cons_of_mem _ (List.mem_append_left _ (List.mem_append_left _ (List.mem_append_left _ (List.mem_append_left _ (List.mem_append_left _ (List.mem_append_left _ (List.mem_append_left _ (List.mem_append_right _ h))))))))
theorem iw_X11_apart__X10 : ∀ w ∈ wsX100, w ∈ wsX11_apart := fun _ h => List.mem_cons_of_mem _ (List.mem_append_left _ (List.mem_append_right _ h))
theorem iw_X11_apart__X11 : ∀ w ∈ wsX110, w ∈ wsX11_apart := fun _ h => List.mem_cons_of_mem _ (List.mem_append_left _ (List.mem_append_left _ (List.mem_append_left _ (List.mem_append_left _ (List.mem_append_left _ (List.mem_append_left _ (List.mem_append_left _ (List.mem_append_left _ (List.mem_append_left _ (List.mem_append_right _ h))))))))))
theorem iw_X11_apart__X2 : ∀ w ∈ wsX20, w ∈ wsX11_apart := fun _ h => List.mem_cons_of_mem _ (List.mem_append_left _ (List.mem_append_left _ (List.mem_append_left _ (List.mem_append_left _ (List.mem_append_left _ (List.mem_append_left _ (List.mem_append_left _ (List.mem_append_left _ (List.mem_append_right _ h)))))))))
theorem iw_X11_apart__X3 : ∀ w ∈ wsX30, w ∈ wsX11_apart := fun _ h => List.mem_cons_of_mem _ (List.mem_append_left _ (List.mem_append_left _ (List.mem_append_left _ (List.mem_append_right _ h))))
theorem iw_X11_apart__X4 : ∀ w ∈ wsX40, w ∈ wsX11_apart := fun _ h => List.mem_cons_of_mem _ (List.mem_append_left _ (List.mem_append_left _ (List.mem_append_left _ (List.mem_append_left _ (List.mem_append_right _ h)))))
theorem iw_X11_apart__X6 : ∀ w ∈ wsX60, w ∈ wsX11_apart := fun _ h => List.mem_cons_of_mem _ (List.mem_append_left _ (List.mem_append_left _ (List.mem_append_left _ (List.mem_append_left _ (List.mem_append_left _ (List.mem_append_right _ h))))))
theorem iw_X11_apart__X7 : ∀ w ∈ wsX70, w ∈ wsX11_apart := fun _ h => List.mem_cons_of_mem _ (List.mem_append_left _ (List.mem_append_left _ (List.mem_append_right _ h)))
theorem iw_X11_apart__X8 : ∀ w ∈ wsX80, w ∈ wsX11_apart := fun _ h => List.mem_cons_of_mem _ (List.mem_append_left _ (List.mem_append_left _ (List.mem_append_left _ (List.mem_append_left _ (List.mem_append_left _ (List.mem_append_left _ (List.mem_append_right _ h)))))))
theorem iw_X11_ball__X11 : ∀ w ∈ wsX110, w ∈ wsX11_ball := fun _ h => List.mem_cons_of_mem _ (List.mem_append_left _ (List.mem_append_left _ (List.mem_append_left _ (List.mem_append_left _ (List.mem_append_left _ (List.mem_append_left _ (List.mem_append_right _ h)))))))
theorem iw_X11_ball__X3 : ∀ w ∈ wsX30, w ∈ wsX11_ball := fun _ h => List.mem_cons_of_mem _ (List.mem_append_left _ (List.mem_append_left _ (List.mem_append_left _ (List.mem_append_right _ h))))
theorem iw_X11_beginAnew__Jx00060 : ∀ w ∈ wsJx000600, w ∈ wsX11_beginAnew := fun _ h => List.mem_cons_of_mem _ (List.mem_append_left _ (List.mem_append_left _ (List.mem_append_right _ h)))
theorem iw_X11_beginAnew__X0 : ∀ w ∈ wsX00, w ∈ wsX11_beginAnew := fun _ h => List.mem_cons_of_mem _ (List.mem_append_left _ (List.mem_append_left _ (List.mem_append_left _ (List.mem_append_left _ (List.mem_append_left _ (List.mem_append_right _ h))))))
theorem iw_X11_beginAnew__X1 : ∀ w ∈ wsX10, w ∈ wsX11_beginAnew := fun _ h => List.mem_cons_of_mem _ (List.mem_append_left _ (List.mem_append_left _ (List.mem_append_left _ (List.mem_append_left _ (List.mem_append_left _ (List.mem_append_left _ (List.mem_append_right _ h)))))))
theorem iw_X11_beginAnew__X10 : ∀ w ∈ wsX100, w ∈ wsX11_beginAnew := fun _ h => List.mem_cons_of_mem _ (List.mem_append_left _ (List.mem_append_left _ (List.mem_append_left _ (List.mem_append_left _ (List.mem_append_left _ (List.mem_append_left _ (List.mem_append_left _ (List.mem_append_right _ h))))))))
theorem iw_X11_beginAnew__X11 : ∀ w ∈ wsX110, w ∈ wsX11_beginAnew := fun _ h => List.mem_cons_of_mem _ (List.mem_append_left _ (List.mem_append_left _ (List.mem_append_left _ (List.mem_append_left _ (List.mem_append_left _ (List.mem_append_left _ (List.mem_append_left _ (List.mem_append_left _ (List.mem_append_left _ (List.mem_append_right _ h))))))))))
theorem iw_X11_beginAnew__X2 : ∀ w ∈ wsX20, w ∈ wsX11_beginAnew := fun _ h => List.mem_cons_of_mem _ (List.mem_append_left _ (List.mem_append_left _ (List.mem_append_left _ (List.mem_append_right _ h))))
theorem iw_X11_beginAnew__X3 : ∀ w ∈ wsX30, w ∈ wsX11_beginAnew := fun _ h => List.mem_cons_of_mem _ (List.mem_append_left _ (List.mem_append_left _ (List.mem_append_left _ (List.mem_append_left _ (List.mem_append_left _ (List.mem_append_left _ (List.mem_append_left _ (List.mem_append_left _ (List.mem_append_right _ h)))))))))
theorem iw_X11_beginAnew__X4 : ∀ w ∈ wsX40, w ∈ wsX11_beginAnew := fun _ h => List.mem_cons_of_mem _ (List.mem_append_left _ (List.mem_append_left _ (List.mem_append_left _ (List.mem_append_left _ (List.mem_append_right _ h)))))
theorem iw_X11_beginAnew__X8 : ∀ w ∈ wsX80, w ∈ wsX11_beginAnew := fun _ h => List.mem_cons_of_mem _ (List.mem_append_left _ (List.mem_append_right _ h))
theorem iw_X11_beginAnew__X9 : ∀ w ∈ wsX90, w ∈ wsX11_beginAnew := fun _ h => List.mem_cons_of_mem _ (List.mem_append_right _ h)
theorem iw_X11_blame__X11 : ∀ w ∈ wsX110, w ∈ wsX11_blame := fun _ h => List.mem_cons_of_mem _ (List.mem_append_left _ (List.mem_append_left _ (List.mem_append_left _ (List.mem_append_left _ (List.mem_append_right _ h)))))
theorem iw_X11_blame__X3 : ∀ w ∈ wsX30, w ∈ wsX11_blame := fun _ h => List.mem_cons_of_mem _ (List.mem_append_left _ (List.mem_append_left _ (List.mem_append_right _ h)))
theorem iw_X11_blame__X8 : ∀ w ∈ wsX80, w ∈ wsX11_blame := fun _ h => List.mem_cons_of_mem _ (List.mem_append_left _ (List.mem_append_left _ (List.mem_append_left _ (List.mem_append_right _ h))))
theorem iw_X11_chancesAtStart__Jx00060 : ∀ w ∈ wsJx000600, w ∈ wsX11_chancesAtStart := fun _ h => List.mem_cons_of_mem _ (List.mem_append_right _ h)
theorem iw_X11_chancesAtStart__X1 : ∀ w ∈ wsX10, w ∈ wsX11_chancesAtStart := fun _ h => List.mem_cons_of_mem _ (List.mem_append_left _ (List.mem_append_left _ (List.mem_append_left _ (List.mem_append_left _ (List.mem_append_left _ (List.mem_append_left _ (List.mem_append_left _ (List.mem_append_left _ (List.mem_append_right _ h)))))))))
theorem iw_X11_chancesAtStart__X10 : ∀ w ∈ wsX100, w ∈ wsX11_chancesAtStart := fun _ h => List.mem_cons_of_mem _ (List.mem_append_left _ (List.mem_append_left _ (List.mem_append_right _ h)))
theorem iw_X11_chancesAtStart__X11 : ∀ w ∈ wsX110, w ∈ wsX11_chancesAtStart := fun _ h => List.mem_cons_of_mem _ (List.mem_append_left _ (List.mem_append_left _ (List.mem_append_left _ (List.mem_append_left _ (List.mem_append_left _ (List.mem_append_left _ (List.mem_append_left _ (List.mem_append_left _ (List.mem_append_left _ (List.mem_append_right _ h))))))))))
theorem iw_X11_chancesAtStart__X2 : ∀ w ∈ wsX20, w ∈ wsX11_chancesAtStart := fun _ h => List.mem_cons_of_mem _ (List.mem_append_left _ (List.mem_append_right _ h))
theorem iw_X11_chancesAtStart__X3 : ∀ w ∈ wsX30, w ∈ wsX11_chancesAtStart := fun _ h => List.mem_cons_of_mem _ (List.mem_append_left _ (List.mem_append_left _ (List.mem_append_left _ (List.mem_append_left _ (List.mem_append_right _ h)))))
theorem iw_X11_chancesAtStart__X4 : ∀ w ∈ wsX40, w ∈ wsX11_chancesAtStart := fun _ h => List.mem_cons_of_mem _ (List.mem_append_left _ (List.mem_append_left _ (List.mem_append_left _ (List.mem_append_left _ (List.mem_append_left _ (List.mem_append_right _ h))))))
theorem iw_X11_chancesAtStart__X6 : ∀ w ∈ wsX60, w ∈ wsX11_chancesAtStart := fun _ h => List.mem_cons_of_mem _ (List.mem_append_left _ (List.mem_append_left _ (List.mem_append_left _ (List.mem_append_left _ (List.mem_append_left _ (List.mem_append_left _ (List.mem_append_right _ h)))))))
theorem iw_X11_chancesAtStart__X7 : ∀ w ∈ wsX70, w ∈ wsX11_chancesAtStart := fun _ h => List.mem_cons_of_mem _ (List.mem_append_left _ (List.mem_append_left _ (List.mem_append_left _ (List.mem_append_right _ h))))
theorem iw_X11_chancesAtStart__X8 : ∀ w ∈ wsX80, w ∈ wsX11_chancesAtStart := fun _ h => List.mem_cons_of_mem _ (List.mem_append_left _ (List.mem_append_left _ (List.mem_append_left _ (List.mem_append_left _ (List.mem_append_left _ (List.mem_append_left _ (List.mem_append_left _ (List.mem_append_right _ h))))))))
theorem iw_X11_chancesNow__Jx00060 : ∀ w ∈ wsJx000600, w ∈ wsX11_chancesNow := fun _ h => List.mem_cons_of_mem _ (List.mem_append_right _ h)
theorem iw_X11_chancesNow__X1 : ∀ w ∈ wsX10, w ∈ wsX11_chancesNow := fun _ h => List.mem_cons_of_mem _ (List.mem_append_left _ (List.mem_append_left _ (List.mem_append_left _ (List.mem_append_left _ (List.mem_append_left _ (List.mem_append_left _ (List.mem_append_left _ (List.mem_append_right _ h))))))))
theorem iw_X11_chancesNow__X10 : ∀ w ∈ wsX100, w ∈ wsX11_chancesNow := fun _ h => List.mem_cons_of_mem _ (List.mem_append_left _ (List.mem_append_left _ (List.mem_append_right _ h)))
theorem iw_X11_chancesNow__X11 : ∀ w ∈ wsX110, w ∈ wsX11_chancesNow := fun _ h => List.mem_cons_of_mem _ (List.mem_append_left _ (List.mem_append_left _ (List.mem_append_left _ (List.mem_append_left _ (List.mem_append_left _ (List.mem_append_left _ (List.mem_append_left _ (List.mem_append_left _ (List.mem_append_left _ (List.mem_append_right _ h))))))))))
theorem iw_X11_chancesNow__X2 : ∀ w ∈ wsX20, w ∈ wsX11_chancesNow := fun _ h => List.mem_cons_of_mem _ (List.mem_append_left _ (List.mem_append_right _ h))
theorem iw_X11_chancesNow__X3 : ∀ w ∈ wsX30, w ∈ wsX11_chancesNow := fun _ h => List.mem_cons_of_mem _ (List.mem_append_left _ (List.mem_append_left _ (List.mem_append_left _ (List.mem_append_left _ (List.mem_append_right _ h)))))
theorem iw_X11_chancesNow__X4 : ∀ w ∈ wsX40, w ∈ wsX11_chancesNow := fun _ h => List.mem_cons_of_mem _ (List.mem_append_left _ (List.mem_append_left _ (List.mem_append_left _ (List.mem_append_left _ (List.mem_append_left _ (List.mem_append_right _ h))))))
theorem iw_X11_chancesNow__X6 : ∀ w ∈ wsX60, w ∈ wsX11_chancesNow := fun _ h => List.mem_cons_of_mem _ (List.mem_append_left _ (List.mem_append_left _ (List.mem_append_left _ (List.mem_append_left _ (List.mem_append_left _ (List.mem_append_left _ (List.mem_append_right _ h)))))))
theorem iw_X11_chancesNow__X7 : ∀ w ∈ wsX70, w ∈ wsX11_chancesNow := fun _ h => List.mem_cons_of_mem _ (List.mem_append_left _ (List.mem_append_left _ (List.mem_append_left _ (List.mem_append_right _ h))))
theorem iw_X11_chancesNow__X8 : ∀ w ∈ wsX80, w ∈ wsX11_chancesNow := fun _ h => List.mem_cons_of_mem _ (List.mem_append_left _ (List.mem_append_left _ (List.mem_append_left _ (List.mem_append_left _ (List.mem_append_left _ (List.mem_append_left _ (List.mem_append_left _ (List.mem_append_left _ (List.mem_append_right _ h)))))))))
theorem iw_X11_clear__X1 : ∀ w ∈ wsX10, w ∈ wsX11_clear := fun _ h => List.mem_cons_of_mem _ (List.mem_append_right _ h)
theorem iw_X11_clear__X11 : ∀ w ∈ wsX110, w ∈ wsX11_clear := fun _ h => List.mem_cons_of_mem _ (List.mem_append_left _ (List.mem_append_left _ (List.mem_append_right _ h)))
theorem iw_X11_clear__X8 : ∀ w ∈ wsX80, w ∈ wsX11_clear := fun _ h => List.mem_cons_of_mem _ (List.mem_append_left _ (List.mem_append_right _ h))
theorem iw_X11_count__X11 : ∀ w ∈ wsX110, w ∈ wsX11_count := fun _ h => List.mem_cons_of_mem _ (List.mem_append_left _ (List.mem_append_left _ (List.mem_append_left _ (List.mem_append_right _ h))))
theorem iw_X11_count__X2 : ∀ w ∈ wsX20, w ∈ wsX11_count := fun _ h => List.mem_cons_of_mem _ (List.mem_append_right _ h)
theorem iw_X11_count__X3 : ∀ w ∈ wsX30, w ∈ wsX11_count := fun _ h => List.mem_cons_of_mem _ (List.mem_append_left _ (List.mem_append_left _ (List.mem_append_right _ h)))
theorem iw_X11_count__X8 : ∀ w ∈ wsX80, w ∈ wsX11_count := fun _ h => List.mem_cons_of_mem _ (List.mem_append_left _ (List.mem_append_right _ h))
theorem iw_X11_draw__X11 : ∀ w ∈ wsX110, w ∈ wsX11_draw := fun _ h => List.mem_cons_of_mem _ (List.mem_append_left _ (List.mem_append_left _ (List.mem_append_left _ (List.mem_append_right _ h))))
theorem iw_X11_draw__X2 : ∀ w ∈ wsX20, w ∈ wsX11_draw := fun _ h => List.mem_cons_of_mem _ (List.mem_append_left _ (List.mem_append_left _ (List.mem_append_right _ h)))
theorem iw_X11_draw__X3 : ∀ w ∈ wsX30, w ∈ wsX11_draw := fun _ h => List.mem_cons_of_mem _ (List.mem_append_left _ (List.mem_append_right _ h))
theorem iw_X11_ends__X11 : ∀ w ∈ wsX110, w ∈ wsX11_ends := fun _ h => List.mem_cons_of_mem _ (List.mem_append_left _ (List.mem_append_left _ (List.mem_append_left _ (List.mem_append_left _ (List.mem_append_right _ h)))))
theorem iw_X11_ends__X3 : ∀ w ∈ wsX30, w ∈ wsX11_ends := fun _ h => List.mem_cons_of_mem _ (List.mem_append_left _ (List.mem_append_left _ (List.mem_append_right _ h)))
theorem iw_X11_evenly__X11 : ∀ w ∈ wsX110, w ∈ wsX11_evenly := fun _ h => List.mem_cons_of_mem _ (List.mem_append_left _ (List.mem_append_right _ h))
theorem iw_X11_evenly__X2 : ∀ w ∈ wsX20, w ∈ wsX11_evenly := fun _ h => List.mem_cons_of_mem _ (List.mem_append_right _ h)
theorem iw_X11_farthest__X11 : ∀ w ∈ wsX110, w ∈ wsX11_farthest := fun _ h => List.mem_cons_of_mem _ (List.mem_append_left _ (List.mem_append_left _ (List.mem_append_right _ h)))
theorem iw_X11_farthest__X3 : ∀ w ∈ wsX30, w ∈ wsX11_farthest := fun _ h => List.mem_cons_of_mem _ (List.mem_append_left _ (List.mem_append_right _ h))
theorem iw_X11_fault__X11 : ∀ w ∈ wsX110, w ∈ wsX11_fault := fun _ h => List.mem_cons_of_mem _ (List.mem_append_left _ (List.mem_append_right _ h))
theorem iw_X11_fault__X5 : ∀ w ∈ wsX50, w ∈ wsX11_fault := fun _ h => List.mem_cons_of_mem _ (List.mem_append_right _ h)
theorem iw_X11_feed__X11 : ∀ w ∈ wsX110, w ∈ wsX11_feed := fun _ h => List.mem_cons_of_mem _ (List.mem_append_right _ h)
theorem iw_X11_findNearest__Jx00060 : ∀ w ∈ wsJx000600, w ∈ wsX11_findNearest := fun _ h => List.mem_cons_of_mem _ (List.mem_append_right _ h)
theorem iw_X11_findNearest__X1 : ∀ w ∈ wsX10, w ∈ wsX11_findNearest := fun _ h => List.mem_cons_of_mem _ (List.mem_append_left _ (List.mem_append_right _ h))
theorem iw_X11_findNearest__X10 : ∀ w ∈ wsX100, w ∈ wsX11_findNearest := fun _ h => List.mem_cons_of_mem _ (List.mem_append_left _ (List.mem_append_left _ (List.mem_append_left _ (List.mem_append_left _ (List.mem_append_left _ (List.mem_append_left _ (List.mem_append_right _ h)))))))
theorem iw_X11_findNearest__X11 : ∀ w ∈ wsX110, w ∈ wsX11_findNearest := fun _ h => List.mem_cons_of_mem _ (List.mem_append_left _ (List.mem_append_left _ (List.mem_append_left _ (List.mem_append_left _ (List.mem_append_left _ (List.mem_append_left _ (List.mem_append_left _ (List.mem_append_left _ (List.mem_append_left _ (List.mem_append_right _ h))))))))))
theorem iw_X11_findNearest__X2 : ∀ w ∈ wsX20, w ∈ wsX11_findNearest := fun _ h => List.mem_cons_of_mem _ (List.mem_append_left _ (List.mem_append_left _ (List.mem_append_left _ (List.mem_append_left _ (List.mem_append_left _ (List.mem_append_right _ h))))))
theorem iw_X11_findNearest__X3 : ∀ w ∈ wsX30, w ∈ wsX11_findNearest := fun _ h => List.mem_cons_of_mem _ (List.mem_append_left _ (List.mem_append_left _ (List.mem_append_left _ (List.mem_append_left _ (List.mem_append_left _ (List.mem_append_left _ (List.mem_append_left _ (List.mem_append_left _ (List.mem_append_right _ h)))))))))
theorem iw_X11_findNearest__X4 : ∀ w ∈ wsX40, w ∈ wsX11_findNearest := fun _ h => List.mem_cons_of_mem _ (List.mem_append_left _ (List.mem_append_left _ (List.mem_append_left _ (List.mem_append_left _ (List.mem_append_right _ h)))))
theorem iw_X11_findNearest__X6 : ∀ w ∈ wsX60, w ∈ wsX11_findNearest := fun _ h => List.mem_cons_of_mem _ (List.mem_append_left _ (List.mem_append_left _ (List.mem_append_left _ (List.mem_append_right _ h))))
theorem iw_X11_findNearest__X7 : ∀ w ∈ wsX70, w ∈ wsX11_findNearest := fun _ h => List.mem_cons_of_mem _ (List.mem_append_left _ (List.mem_append_left _ (List.mem_append_right _ h)))
theorem iw_X11_findNearest__X8 : ∀ w ∈ wsX80, w ∈ wsX11_findNearest := fun _ h => List.mem_cons_of_mem _ (List.mem_append_left _ (List.mem_append_left _ (List.mem_append_left _ (List.mem_append_left _ (List.mem_append_left _ (List.mem_append_left _ (List.mem_append_left _ (List.mem_append_right _ h))))))))
theorem iw_X11_forbids__X11 : ∀ w ∈ wsX110, w ∈ wsX11_forbids := fun _ h => List.mem_cons_of_mem _ (List.mem_append_left _ (List.mem_append_left _ (List.mem_append_right _ h)))
theorem iw_X11_forbids__X2 : ∀ w ∈ wsX20, w ∈ wsX11_forbids := fun _ h => List.mem_cons_of_mem _ (List.mem_append_left _ (List.mem_append_right _ h))
theorem iw_X11_init__Jx00060 : ∀ w ∈ wsJx000600, w ∈ wsX11_init := fun _ h => List.mem_cons_of_mem _ (List.mem_append_right _ h)
theorem iw_X11_init__X0 : ∀ w ∈ wsX00, w ∈ wsX11_init := fun _ h => List.mem_cons_of_mem _ (List.mem_append_left _ (List.mem_append_left _ (List.mem_append_left _ (List.mem_append_right _ h))))
theorem iw_X11_init__X1 : ∀ w ∈ wsX10, w ∈ wsX11_init := fun _ h => List.mem_cons_of_mem _ (List.mem_append_left _ (List.mem_append_left _ (List.mem_append_left _ (List.mem_append_left _ (List.mem_append_right _ h)))))
theorem iw_X11_init__X10 : ∀ w ∈ wsX100, w ∈ wsX11_init := fun _ h => List.mem_cons_of_mem _ (List.mem_append_left _ (List.mem_append_left _ (List.mem_append_left _ (List.mem_append_left _ (List.mem_append_left _ (List.mem_append_left _ (List.mem_append_right _ h)))))))
theorem iw_X11_init__X11 : ∀ w ∈ wsX110, w ∈ wsX11_init := fun _ h => List.mem_cons_of_mem _ (List.mem_append_left _ (List.mem_append_left _ (List.mem_append_left _ (List.mem_append_left _ (List.mem_append_left _ (List.mem_append_left _ (List.mem_append_left _ (List.mem_append_left _ (List.mem_append_left _ (List.mem_append_left _ (List.mem_append_left _ (List.mem_append_left _ (List.mem_append_right _ h)))))))))))))
theorem iw_X11_init__X2 : ∀ w ∈ wsX20, w ∈ wsX11_init := fun _ h => List.mem_cons_of_mem _ (List.mem_append_left _ (List.mem_append_left _ (List.mem_append_left _ (List.mem_append_left _ (List.mem_append_left _ (List.mem_append_left _ (List.mem_append_left _ (List.mem_append_left _ (List.mem_append_right _ h)))))))))
theorem iw_X11_init__X3 : ∀ w ∈ wsX30, w ∈ wsX11_init := fun _ h => List.mem_cons_of_mem _ (List.mem_append_left _ (List.mem_append_left _ (List.mem_append_left _ (List.mem_append_left _ (List.mem_append_left _ (List.mem_append_left _ (List.mem_append_left _ (List.mem_append_left _ (List.mem_append_left _ (List.mem_append_left _ (List.mem_append_left _ (List.mem_append_right _ h))))))))))))
theorem iw_X11_init__X4 : ∀ w ∈ wsX40, w ∈ wsX11_init := fun _ h => List.mem_cons_of_mem _ (List.mem_append_left _ (List.mem_append_left _ (List.mem_append_left _ (List.mem_append_left _ (List.mem_append_left _ (List.mem_append_left _ (List.mem_append_left _ (List.mem_append_left _ (List.mem_append_left _ (List.mem_append_right _ h))))))))))
theorem iw_X11_init__X5 : ∀ w ∈ wsX50, w ∈ wsX11_init := fun _ h => List.mem_cons_of_mem _ (List.mem_append_left _ (List.mem_append_left _ (List.mem_append_left _ (List.mem_append_left _ (List.mem_append_left _ (List.mem_append_left _ (List.mem_append_left _ (List.mem_append_left _ (List.mem_append_left _ (List.mem_append_left _ (List.mem_append_right _ h)))))))))))
theorem iw_X11_init__X6 : ∀ w ∈ wsX60, w ∈ wsX11_init := fun _ h => List.mem_cons_of_mem _ (List.mem_append_left _ (List.mem_append_left _ (List.mem_append_left _ (List.mem_append_left _ (List.mem_append_left _ (List.mem_append_right _ h))))))
theorem iw_X11_init__X7 : ∀ w ∈ wsX70, w ∈ wsX11_init := fun _ h => List.mem_cons_of_mem _ (List.mem_append_left _ (List.mem_append_right _ h))
theorem iw_X11_init__X8 : ∀ w ∈ wsX80, w ∈ wsX11_init := fun _ h => List.mem_cons_of_mem _ (List.mem_append_left _ (List.mem_append_left _ (List.mem_append_left _ (List.mem_append_left _ (List.mem_append_left _ (List.mem_append_left _ (List.mem_append_left _ (List.mem_append_right _ h))))))))
theorem iw_X11_init__X9 : ∀ w ∈ wsX90, w ∈ wsX11_init := fun _ h => List.mem_cons_of_mem _ (List.mem_append_left _ (List.mem_append_left _ (List.mem_append_right _ h)))
theorem iw_X11_isBar__X11 : ∀ w ∈ wsX110, w ∈ wsX11_isBar := fun _ h => List.mem_cons_of_mem _ (List.mem_append_left _ (List.mem_append_right _ h))
theorem iw_X11_isBar__X3 : ∀ w ∈ wsX30, w ∈ wsX11_isBar := fun _ h => List.mem_cons_of_mem _ (List.mem_append_right _ h)
theorem iw_X11_isCode__X11 : ∀ w ∈ wsX110, w ∈ wsX11_isCode := fun _ h => List.mem_cons_of_mem _ (List.mem_append_left _ (List.mem_append_right _ h))
theorem iw_X11_isCode__X2 : ∀ w ∈ wsX20, w ∈ wsX11_isCode := fun _ h => List.mem_cons_of_mem _ (List.mem_append_right _ h)
theorem iw_X11_isGroup__X11 : ∀ w ∈ wsX110, w ∈ wsX11_isGroup := fun _ h => List.mem_cons_of_mem _ (List.mem_append_left _ (List.mem_append_right _ h))
theorem iw_X11_isGroup__X3 : ∀ w ∈ wsX30, w ∈ wsX11_isGroup := fun _ h => List.mem_cons_of_mem _ (List.mem_append_right _ h)
theorem iw_X11_isTeam__X11 : ∀ w ∈ wsX110, w ∈ wsX11_isTeam := fun _ h => List.mem_cons_of_mem _ (List.mem_append_left _ (List.mem_append_right _ h))
theorem iw_X11_isTeam__X3 : ∀ w ∈ wsX30, w ∈ wsX11_isTeam := fun _ h => List.mem_cons_of_mem _ (List.mem_append_right _ h)
theorem iw_X11_judge__X11 : ∀ w ∈ wsX110, w ∈ wsX11_judge := fun _ h => List.mem_cons_of_mem _ (List.mem_append_left _ (List.mem_append_right _ h))
theorem iw_X11_judge__X2 : ∀ w ∈ wsX20, w ∈ wsX11_judge := fun _ h => List.mem_cons_of_mem _ (List.mem_append_right _ h)
theorem iw_X11_lawful__X11 : ∀ w ∈ wsX110, w ∈ wsX11_lawful := fun _ h => List.mem_cons_of_mem _ (List.mem_append_left _ (List.mem_append_right _ h))
theorem iw_X11_lawful__X2 : ∀ w ∈ wsX20, w ∈ wsX11_lawful := fun _ h => List.mem_cons_of_mem _ (List.mem_append_right _ h)
theorem iw_X11_leads__X10 : ∀ w ∈ wsX100, w ∈ wsX11_leads := fun _ h => List.mem_cons_of_mem _ (List.mem_append_right _ h)
theorem iw_X11_leads__X11 : ∀ w ∈ wsX110, w ∈ wsX11_leads := fun _ h => List.mem_cons_of_mem _ (List.mem_append_left _ (List.mem_append_left _ (List.mem_append_left _ (List.mem_append_left _ (List.mem_append_left _ (List.mem_append_right _ h))))))
theorem iw_X11_leads__X2 : ∀ w ∈ wsX20, w ∈ wsX11_leads := fun _ h => List.mem_cons_of_mem _ (List.mem_append_left _ (List.mem_append_left _ (List.mem_append_left _ (List.mem_append_left _ (List.mem_append_right _ h)))))
theorem iw_X11_leads__X3 : ∀ w ∈ wsX30, w ∈ wsX11_leads := fun _ h => List.mem_cons_of_mem _ (List.mem_append_left _ (List.mem_append_left _ (List.mem_append_left _ (List.mem_append_right _ h))))
theorem iw_X11_leads__X4 : ∀ w ∈ wsX40, w ∈ wsX11_leads := fun _ h => List.mem_cons_of_mem _ (List.mem_append_left _ (List.mem_append_right _ h))
theorem iw_X11_leads__X8 : ∀ w ∈ wsX80, w ∈ wsX11_leads := fun _ h => List.mem_cons_of_mem _ (List.mem_append_left _ (List.mem_append_left _ (List.mem_append_right _ h)))
theorem iw_X11_leave__X0 : ∀ w ∈ wsX00, w ∈ wsX11_leave := fun _ h => List.mem_cons_of_mem _ (List.mem_append_left _ (List.mem_append_left _ (List.mem_append_right _ h)))
theorem iw_X11_leave__X11 : ∀ w ∈ wsX110, w ∈ wsX11_leave := fun _ h => List.mem_cons_of_mem _ (List.mem_append_left _ (List.mem_append_left _ (List.mem_append_left _ (List.mem_append_left _ (List.mem_append_right _ h)))))
theorem iw_X11_leave__X2 : ∀ w ∈ wsX20, w ∈ wsX11_leave := fun _ h => List.mem_cons_of_mem _ (List.mem_append_left _ (List.mem_append_right _ h))
theorem iw_X11_leave__X3 : ∀ w ∈ wsX30, w ∈ wsX11_leave := fun _ h => List.mem_cons_of_mem _ (List.mem_append_left _ (List.mem_append_left _ (List.mem_append_left _ (List.mem_append_right _ h))))
theorem iw_X11_leave__X4 : ∀ w ∈ wsX40, w ∈ wsX11_leave := fun _ h => List.mem_cons_of_mem _ (List.mem_append_right _ h)
theorem iw_X11_likeAnEarlierOne__X11 : ∀ w ∈ wsX110, w ∈ wsX11_likeAnEarlierOne := fun _ h => List.mem_cons_of_mem _ (List.mem_append_left _ (List.mem_append_right _ h))
theorem iw_X11_likeAnEarlierOne__X3 : ∀ w ∈ wsX30, w ∈ wsX11_likeAnEarlierOne := fun _ h => List.mem_cons_of_mem _ (List.mem_append_right _ h)
theorem iw_X11_mix__Jx00060 : ∀ w ∈ wsJx000600, w ∈ wsX11_mix := fun _ h => List.mem_cons_of_mem _ (List.mem_append_left _ (List.mem_append_left _ (List.mem_append_right _ h)))
theorem iw_X11_mix__X11 : ∀ w ∈ wsX110, w ∈ wsX11_mix := fun _ h => List.mem_cons_of_mem _ (List.mem_append_left _ (List.mem_append_left _ (List.mem_append_left _ (List.mem_append_left _ (List.mem_append_left _ (List.mem_append_right _ h))))))
theorem iw_X11_mix__X2 : ∀ w ∈ wsX20, w ∈ wsX11_mix := fun _ h => List.mem_cons_of_mem _ (List.mem_append_left _ (List.mem_append_left _ (List.mem_append_left _ (List.mem_append_left _ (List.mem_append_right _ h)))))
theorem iw_X11_mix__X3 : ∀ w ∈ wsX30, w ∈ wsX11_mix := fun _ h => List.mem_cons_of_mem _ (List.mem_append_left _ (List.mem_append_right _ h))
theorem iw_X11_mix__X4 : ∀ w ∈ wsX40, w ∈ wsX11_mix := fun _ h => List.mem_cons_of_mem _ (List.mem_append_right _ h)
theorem iw_X11_mix__X9 : ∀ w ∈ wsX90, w ∈ wsX11_mix := fun _ h => List.mem_cons_of_mem _ (List.mem_append_left _ (List.mem_append_left _ (List.mem_append_left _ (List.mem_append_right _ h))))
theorem iw_X11_mixed__Jx00060 : ∀ w ∈ wsJx000600, w ∈ wsX11_mixed := fun _ h => List.mem_cons_of_mem _ (List.mem_append_left _ (List.mem_append_left _ (List.mem_append_right _ h)))
theorem iw_X11_mixed__X11 : ∀ w ∈ wsX110, w ∈ wsX11_mixed := fun _ h => List.mem_cons_of_mem _ (List.mem_append_left _ (List.mem_append_left _ (List.mem_append_left _ (List.mem_append_left _ (List.mem_append_left _ (List.mem_append_right _ h))))))
theorem iw_X11_mixed__X2 : ∀ w ∈ wsX20, w ∈ wsX11_mixed := fun _ h => List.mem_cons_of_mem _ (List.mem_append_left _ (List.mem_append_left _ (List.mem_append_left _ (List.mem_append_left _ (List.mem_append_right _ h)))))
theorem iw_X11_mixed__X3 : ∀ w ∈ wsX30, w ∈ wsX11_mixed := fun _ h => List.mem_cons_of_mem _ (List.mem_append_left _ (List.mem_append_right _ h))
theorem iw_X11_mixed__X4 : ∀ w ∈ wsX40, w ∈ wsX11_mixed := fun _ h => List.mem_cons_of_mem _ (List.mem_append_right _ h)
theorem iw_X11_mixed__X9 : ∀ w ∈ wsX90, w ∈ wsX11_mixed := fun _ h => List.mem_cons_of_mem _ (List.mem_append_left _ (List.mem_append_left _ (List.mem_append_left _ (List.mem_append_right _ h))))
theorem iw_X11_moves__X11 : ∀ w ∈ wsX110, w ∈ wsX11_moves := fun _ h => List.mem_cons_of_mem _ (List.mem_append_left _ (List.mem_append_left _ (List.mem_append_left _ (List.mem_append_left _ (List.mem_append_right _ h)))))
theorem iw_X11_moves__X3 : ∀ w ∈ wsX30, w ∈ wsX11_moves := fun _ h => List.mem_cons_of_mem _ (List.mem_append_left _ (List.mem_append_left _ (List.mem_append_right _ h)))
theorem iw_X11_named__X11 : ∀ w ∈ wsX110, w ∈ wsX11_named := fun _ h => List.mem_cons_of_mem _ (List.mem_append_left _ (List.mem_append_right _ h))
theorem iw_X11_named__X3 : ∀ w ∈ wsX30, w ∈ wsX11_named := fun _ h => List.mem_cons_of_mem _ (List.mem_append_right _ h)
theorem iw_X11_nearest__Jx00060 : ∀ w ∈ wsJx000600, w ∈ wsX11_nearest := fun _ h => List.mem_cons_of_mem _ (List.mem_append_right _ h)
theorem iw_X11_nearest__X1 : ∀ w ∈ wsX10, w ∈ wsX11_nearest := fun _ h => List.mem_cons_of_mem _ (List.mem_append_left _ (List.mem_append_left _ (List.mem_append_left _ (List.mem_append_left _ (List.mem_append_left _ (List.mem_append_left _ (List.mem_append_right _ h)))))))
theorem iw_X11_nearest__X10 : ∀ w ∈ wsX100, w ∈ wsX11_nearest := fun _ h => List.mem_cons_of_mem _ (List.mem_append_left _ (List.mem_append_right _ h))
theorem iw_X11_nearest__X11 : ∀ w ∈ wsX110, w ∈ wsX11_nearest := fun _ h => List.mem_cons_of_mem _ (List.mem_append_left _ (List.mem_append_left _ (List.mem_append_left _ (List.mem_append_left _ (List.mem_append_left _ (List.mem_append_left _ (List.mem_append_left _ (List.mem_append_left _ (List.mem_append_left _ (List.mem_append_right _ h))))))))))
theorem iw_X11_nearest__X2 : ∀ w ∈ wsX20, w ∈ wsX11_nearest := fun _ h => List.mem_cons_of_mem _ (List.mem_append_left _ (List.mem_append_left _ (List.mem_append_left _ (List.mem_append_left _ (List.mem_append_left _ (List.mem_append_left _ (List.mem_append_left _ (List.mem_append_left _ (List.mem_append_right _ h)))))))))
theorem iw_X11_nearest__X3 : ∀ w ∈ wsX30, w ∈ wsX11_nearest := fun _ h => List.mem_cons_of_mem _ (List.mem_append_left _ (List.mem_append_left _ (List.mem_append_left _ (List.mem_append_left _ (List.mem_append_left _ (List.mem_append_left _ (List.mem_append_left _ (List.mem_append_right _ h))))))))
theorem iw_X11_nearest__X4 : ∀ w ∈ wsX40, w ∈ wsX11_nearest := fun _ h => List.mem_cons_of_mem _ (List.mem_append_left _ (List.mem_append_left _ (List.mem_append_left _ (List.mem_append_right _ h))))
theorem iw_X11_nearest__X6 : ∀ w ∈ wsX60, w ∈ wsX11_nearest := fun _ h => List.mem_cons_of_mem _ (List.mem_append_left _ (List.mem_append_left _ (List.mem_append_left _ (List.mem_append_left _ (List.mem_append_right _ h)))))
theorem iw_X11_nearest__X7 : ∀ w ∈ wsX70, w ∈ wsX11_nearest := fun _ h => List.mem_cons_of_mem _ (List.mem_append_left _ (List.mem_append_left _ (List.mem_append_right _ h)))
theorem iw_X11_nearest__X8 : ∀ w ∈ wsX80, w ∈ wsX11_nearest := fun _ h => List.mem_cons_of_mem _ (List.mem_append_left _ (List.mem_append_left _ (List.mem_append_left _ (List.mem_append_left _ (List.mem_append_left _ (List.mem_append_right _ h))))))
theorem iw_X11_order__X1 : ∀ w ∈ wsX10, w ∈ wsX11_order := fun _ h => List.mem_cons_of_mem _ (List.mem_append_right _ h)
theorem iw_X11_order__X10 : ∀ w ∈ wsX100, w ∈ wsX11_order := fun _ h => List.mem_cons_of_mem _ (List.mem_append_left _ (List.mem_append_right _ h))
theorem iw_X11_order__X11 : ∀ w ∈ wsX110, w ∈ wsX11_order := fun _ h => List.mem_cons_of_mem _ (List.mem_append_left _ (List.mem_append_left _ (List.mem_append_left _ (List.mem_append_left _ (List.mem_append_right _ h)))))
theorem iw_X11_order__X3 : ∀ w ∈ wsX30, w ∈ wsX11_order := fun _ h => List.mem_cons_of_mem _ (List.mem_append_left _ (List.mem_append_left _ (List.mem_append_left _ (List.mem_append_right _ h))))
theorem iw_X11_order__X8 : ∀ w ∈ wsX80, w ∈ wsX11_order := fun _ h => List.mem_cons_of_mem _ (List.mem_append_left _ (List.mem_append_left _ (List.mem_append_right _ h)))
theorem iw_X11_pair__X11 : ∀ w ∈ wsX110, w ∈ wsX11_pair := fun _ h => List.mem_cons_of_mem _ (List.mem_append_left _ (List.mem_append_left _ (List.mem_append_left _ (List.mem_append_left _ (List.mem_append_left _ (List.mem_append_left _ (List.mem_append_left _ (List.mem_append_left _ (List.mem_append_left _ (List.mem_append_right _ h))))))))))
theorem iw_X11_pair__X3 : ∀ w ∈ wsX30, w ∈ wsX11_pair := fun _ h => List.mem_cons_of_mem _ (List.mem_append_left _ (List.mem_append_left _ (List.mem_append_left _ (List.mem_append_left _ (List.mem_append_left _ (List.mem_append_left _ (List.mem_append_left _ (List.mem_append_right _ h))))))))
theorem iw_X11_parts__Jx00060 : ∀ w ∈ wsJx000600, w ∈ wsX11_parts := fun _ h => List.mem_cons_of_mem _ (List.mem_append_left _ (List.mem_append_left _ (List.mem_append_right _ h)))
theorem iw_X11_parts__X11 : ∀ w ∈ wsX110, w ∈ wsX11_parts := fun _ h => List.mem_cons_of_mem _ (List.mem_append_left _ (List.mem_append_left _ (List.mem_append_left _ (List.mem_append_left _ (List.mem_append_left _ (List.mem_append_right _ h))))))
theorem iw_X11_parts__X2 : ∀ w ∈ wsX20, w ∈ wsX11_parts := fun _ h => List.mem_cons_of_mem _ (List.mem_append_left _ (List.mem_append_left _ (List.mem_append_left _ (List.mem_append_right _ h))))
theorem iw_X11_parts__X3 : ∀ w ∈ wsX30, w ∈ wsX11_parts := fun _ h => List.mem_cons_of_mem _ (List.mem_append_left _ (List.mem_append_right _ h))
theorem iw_X11_parts__X4 : ∀ w ∈ wsX40, w ∈ wsX11_parts := fun _ h => List.mem_cons_of_mem _ (List.mem_append_right _ h)
theorem iw_X11_parts__X9 : ∀ w ∈ wsX90, w ∈ wsX11_parts := fun _ h => List.mem_cons_of_mem _ (List.mem_append_left _ (List.mem_append_left _ (List.mem_append_left _ (List.mem_append_left _ (List.mem_append_right _ h)))))
theorem iw_X11_place__X11 : ∀ w ∈ wsX110, w ∈ wsX11_place := fun _ h => List.mem_cons_of_mem _ (List.mem_append_left _ (List.mem_append_left _ (List.mem_append_left _ (List.mem_append_left _ (List.mem_append_left _ (List.mem_append_left _ (List.mem_append_left _ (List.mem_append_left _ (List.mem_append_left _ (List.mem_append_right _ h))))))))))
theorem iw_X11_place__X3 : ∀ w ∈ wsX30, w ∈ wsX11_place := fun _ h => List.mem_cons_of_mem _ (List.mem_append_left _ (List.mem_append_left _ (List.mem_append_left _ (List.mem_append_left _ (List.mem_append_left _ (List.mem_append_left _ (List.mem_append_left _ (List.mem_append_right _ h))))))))
theorem iw_X11_placed__X11 : ∀ w ∈ wsX110, w ∈ wsX11_placed := fun _ h => List.mem_cons_of_mem _ (List.mem_append_left _ (List.mem_append_left _ (List.mem_append_right _ h)))
theorem iw_X11_placed__X3 : ∀ w ∈ wsX30, w ∈ wsX11_placed := fun _ h => List.mem_cons_of_mem _ (List.mem_append_right _ h)
theorem iw_X11_run__X11 : ∀ w ∈ wsX110, w ∈ wsX11_run := fun _ h => List.mem_cons_of_mem _ (List.mem_append_left _ (List.mem_append_left _ (List.mem_append_left _ (List.mem_append_left _ (List.mem_append_right _ h)))))
theorem iw_X11_run__X3 : ∀ w ∈ wsX30, w ∈ wsX11_run := fun _ h => List.mem_cons_of_mem _ (List.mem_append_left _ (List.mem_append_right _ h))
theorem iw_X11_sizeOfFarthest__X1 : ∀ w ∈ wsX10, w ∈ wsX11_sizeOfFarthest := fun _ h => List.mem_cons_of_mem _ (List.mem_append_right _ h)
theorem iw_X11_sizeOfFarthest__X11 : ∀ w ∈ wsX110, w ∈ wsX11_sizeOfFarthest := fun _ h => List.mem_cons_of_mem _ (List.mem_append_left _ (List.mem_append_left _ (List.mem_append_right _ h)))
theorem iw_X11_sizeOfFarthest__X3 : ∀ w ∈ wsX30, w ∈ wsX11_sizeOfFarthest := fun _ h => List.mem_cons_of_mem _ (List.mem_append_left _ (List.mem_append_right _ h))
theorem iw_X11_stageChanged__X1 : ∀ w ∈ wsX10, w ∈ wsX11_stageChanged := fun _ h => List.mem_cons_of_mem _ (List.mem_append_right _ h)
theorem iw_X11_stageChanged__X11 : ∀ w ∈ wsX110, w ∈ wsX11_stageChanged := fun _ h => List.mem_cons_of_mem _ (List.mem_append_left _ (List.mem_append_right _ h))
theorem iw_X11_startChanged__X1 : ∀ w ∈ wsX10, w ∈ wsX11_startChanged := fun _ h => List.mem_cons_of_mem _ (List.mem_append_right _ h)
theorem iw_X11_startChanged__X11 : ∀ w ∈ wsX110, w ∈ wsX11_startChanged := fun _ h => List.mem_cons_of_mem _ (List.mem_append_left _ (List.mem_append_right _ h))
theorem iw_X11_sumOfFar__X11 : ∀ w ∈ wsX110, w ∈ wsX11_sumOfFar := fun _ h => List.mem_cons_of_mem _ (List.mem_append_left _ (List.mem_append_left _ (List.mem_append_right _ h)))
theorem iw_X11_sumOfFar__X3 : ∀ w ∈ wsX30, w ∈ wsX11_sumOfFar := fun _ h => List.mem_cons_of_mem _ (List.mem_append_left _ (List.mem_append_right _ h))
theorem iw_X11_tapeFour__X11 : ∀ w ∈ wsX110, w ∈ wsX11_tapeFour := fun _ h => List.mem_cons_of_mem _ (List.mem_append_right _ h)
theorem iw_X11_text__Jx00060 : ∀ w ∈ wsJx000600, w ∈ wsX11_text := fun _ h => List.mem_cons_of_mem _ (List.mem_append_left _ (List.mem_append_left _ (List.mem_append_right _ h)))
theorem iw_X11_text__X0 : ∀ w ∈ wsX00, w ∈ wsX11_text := fun _ h => List.mem_cons_of_mem _ (List.mem_append_left _ (List.mem_append_left _ (List.mem_append_left _ (List.mem_append_left _ (List.mem_append_left _ (List.mem_append_right _ h))))))
theorem iw_X11_text__X1 : ∀ w ∈ wsX10, w ∈ wsX11_text := fun _ h => List.mem_cons_of_mem _ (List.mem_append_left _ (List.mem_append_left _ (List.mem_append_left _ (List.mem_append_left _ (List.mem_append_left _ (List.mem_append_left _ (List.mem_append_right _ h)))))))
theorem iw_X11_text__X10 : ∀ w ∈ wsX100, w ∈ wsX11_text := fun _ h => List.mem_cons_of_mem _ (List.mem_append_left _ (List.mem_append_left _ (List.mem_append_left _ (List.mem_append_left _ (List.mem_append_left _ (List.mem_append_left _ (List.mem_append_left _ (List.mem_append_right _ h))))))))
theorem iw_X11_text__X11 : ∀ w ∈ wsX110, w ∈ wsX11_text := fun _ h => List.mem_cons_of_mem _ (List.mem_append_left _ (List.mem_append_left _ (List.mem_append_left _ (List.mem_append_left _ (List.mem_append_left _ (List.mem_append_left _ (List.mem_append_left _ (List.mem_append_left _ (List.mem_append_left _ (List.mem_append_left _ (List.mem_append_right _ h)))))))))))
theorem iw_X11_text__X2 : ∀ w ∈ wsX20, w ∈ wsX11_text := fun _ h => List.mem_cons_of_mem _ (List.mem_append_left _ (List.mem_append_left _ (List.mem_append_left _ (List.mem_append_right _ h))))
theorem iw_X11_text__X3 : ∀ w ∈ wsX30, w ∈ wsX11_text := fun _ h => List.mem_cons_of_mem _ (List.mem_append_left _ (List.mem_append_left _ (List.mem_append_left _ (List.mem_append_left _ (List.mem_append_left _ (List.mem_append_left _ (List.mem_append_left _ (List.mem_append_left _ (List.mem_append_right _ h)))))))))
theorem iw_X11_text__X4 : ∀ w ∈ wsX40, w ∈ wsX11_text := fun _ h => List.mem_cons_of_mem _ (List.mem_append_left _ (List.mem_append_left _ (List.mem_append_left _ (List.mem_append_left _ (List.mem_append_right _ h)))))
theorem iw_X11_text__X5 : ∀ w ∈ wsX50, w ∈ wsX11_text := fun _ h => List.mem_cons_of_mem _ (List.mem_append_left _ (List.mem_append_left _ (List.mem_append_left _ (List.mem_append_left _ (List.mem_append_left _ (List.mem_append_left _ (List.mem_append_left _ (List.mem_append_left _ (List.mem_append_left _ (List.mem_append_right _ h))))))))))
theorem iw_X11_text__X8 : ∀ w ∈ wsX80, w ∈ wsX11_text := fun _ h => List.mem_cons_of_mem _ (List.mem_append_left _ (List.mem_append_right _ h))
theorem iw_X11_text__X9 : ∀ w ∈ wsX90, w ∈ wsX11_text := fun _ h => List.mem_cons_of_mem _ (List.mem_append_right _ h)
theorem iw_X11_treeOfNow__X10 : ∀ w ∈ wsX100, w ∈ wsX11_treeOfNow := fun _ h => List.mem_cons_of_mem _ (List.mem_append_left _ (List.mem_append_left _ (List.mem_append_left _ (List.mem_append_left _ (List.mem_append_right _ h)))))
theorem iw_X11_treeOfNow__X11 : ∀ w ∈ wsX110, w ∈ wsX11_treeOfNow := fun _ h => List.mem_cons_of_mem _ (List.mem_append_left _ (List.mem_append_left _ (List.mem_append_left _ (List.mem_append_left _ (List.mem_append_left _ (List.mem_append_right _ h))))))
theorem iw_X11_treeOfNow__X2 : ∀ w ∈ wsX20, w ∈ wsX11_treeOfNow := fun _ h => List.mem_cons_of_mem _ (List.mem_append_left _ (List.mem_append_left _ (List.mem_append_right _ h)))
theorem iw_X11_treeOfNow__X3 : ∀ w ∈ wsX30, w ∈ wsX11_treeOfNow := fun _ h => List.mem_cons_of_mem _ (List.mem_append_left _ (List.mem_append_right _ h))
theorem iw_X11_treeOfNow__X4 : ∀ w ∈ wsX40, w ∈ wsX11_treeOfNow := fun _ h => List.mem_cons_of_mem _ (List.mem_append_right _ h)
theorem iw_X11_treeOfNow__X8 : ∀ w ∈ wsX80, w ∈ wsX11_treeOfNow := fun _ h => List.mem_cons_of_mem _ (List.mem_append_left _ (List.mem_append_left _ (List.mem_append_left _ (List.mem_append_right _ h))))
theorem iw_X11_undo__X11 : ∀ w ∈ wsX110, w ∈ wsX11_undo := fun _ h => List.mem_cons_of_mem _ (List.mem_append_left _ (List.mem_append_left _ (List.mem_append_right _ h)))
theorem iw_X11_undo__X8 : ∀ w ∈ wsX80, w ∈ wsX11_undo := fun _ h => List.mem_cons_of_mem _ (List.mem_append_left _ (List.mem_append_right _ h))
theorem iw_X11_why__X11 : ∀ w ∈ wsX110, w ∈ wsX11_why := fun _ h => List.mem_cons_of_mem _ (List.mem_append_left _ (List.mem_append_left _ (List.mem_append_right _ h)))
theorem iw_X11_why__X3 : ∀ w ∈ wsX30, w ∈ wsX11_why := fun _ h => List.mem_cons_of_mem _ (List.mem_append_left _ (List.mem_append_right _ h))
theorem iw_X11_why__X8 : ∀ w ∈ wsX80, w ∈ wsX11_why := fun _ h => List.mem_cons_of_mem _ (List.mem_append_right _ h)
theorem iw_X11_without__X11 : ∀ w ∈ wsX110, w ∈ wsX11_without := fun _ h => List.mem_cons_of_mem _ (List.mem_append_left _ (List.mem_append_left _ (List.mem_append_right _ h)))
theorem iw_X11_without__X3 : ∀ w ∈ wsX30, w ∈ wsX11_without := fun _ h => List.mem_cons_of_mem _ (List.mem_append_right _ h)
theorem iw_X12_agreeing__X12 : ∀ w ∈ wsX120, w ∈ wsX12_agreeing := fun _ h => List.mem_cons_of_mem _ (List.mem_append_right _ h)
theorem iw_X12_allRows__X12 : ∀ w ∈ wsX120, w ∈ wsX12_allRows := fun _ h => List.mem_cons_of_mem _ (List.mem_append_right _ h)
theorem iw_X12_all__X12 : ∀ w ∈ wsX120, w ∈ wsX12_all := fun _ h => List.mem_cons_of_mem _ (List.mem_append_right _ h)
theorem iw_X12_apart__X12 : ∀ w ∈ wsX120, w ∈ wsX12_apart := fun _ h => List.mem_cons_of_mem _ (List.mem_append_right _ h)
theorem iw_X12_ball__X12 : ∀ w ∈ wsX120, w ∈ wsX12_ball := fun _ h => List.mem_cons_of_mem _ (List.mem_append_right _ h)
theorem iw_X12_blame__X12 : ∀ w ∈ wsX120, w ∈ wsX12_blame := fun _ h => List.mem_cons_of_mem _ (List.mem_append_right _ h)
theorem iw_X12_clear__X12 : ∀ w ∈ wsX120, w ∈ wsX12_clear := fun _ h => List.mem_cons_of_mem _ (List.mem_append_right _ h)
theorem iw_X12_count__X12 : ∀ w ∈ wsX120, w ∈ wsX12_count := fun _ h => List.mem_cons_of_mem _ (List.mem_append_right _ h)
theorem iw_X12_digit__X12 : ∀ w ∈ wsX120, w ∈ wsX12_digit := fun _ h => List.mem_cons_of_mem _ (List.mem_append_right _ h)
theorem iw_X12_draw__X12 : ∀ w ∈ wsX120, w ∈ wsX12_draw := fun _ h => List.mem_cons_of_mem _ (List.mem_append_right _ h)
theorem iw_X12_ends__X12 : ∀ w ∈ wsX120, w ∈ wsX12_ends := fun _ h => List.mem_cons_of_mem _ (List.mem_append_right _ h)
theorem iw_X12_evenly__X12 : ∀ w ∈ wsX120, w ∈ wsX12_evenly := fun _ h => List.mem_cons_of_mem _ (List.mem_append_right _ h)
theorem iw_X12_fault__X12 : ∀ w ∈ wsX120, w ∈ wsX12_fault := fun _ h => List.mem_cons_of_mem _ (List.mem_append_right _ h)
theorem iw_X12_feed__X12 : ∀ w ∈ wsX120, w ∈ wsX12_feed := fun _ h => List.mem_cons_of_mem _ (List.mem_append_right _ h)
theorem iw_X12_fills__X12 : ∀ w ∈ wsX120, w ∈ wsX12_fills := fun _ h => List.mem_cons_of_mem _ (List.mem_append_right _ h)
theorem iw_X12_forbids__X12 : ∀ w ∈ wsX120, w ∈ wsX12_forbids := fun _ h => List.mem_cons_of_mem _ (List.mem_append_right _ h)
theorem iw_X12_init__X12 : ∀ w ∈ wsX120, w ∈ wsX12_init := fun _ h => List.mem_cons_of_mem _ (List.mem_append_right _ h)
theorem iw_X12_isEven__X12 : ∀ w ∈ wsX120, w ∈ wsX12_isEven := fun _ h => List.mem_cons_of_mem _ (List.mem_append_right _ h)
theorem iw_X12_isTeam__X12 : ∀ w ∈ wsX120, w ∈ wsX12_isTeam := fun _ h => List.mem_cons_of_mem _ (List.mem_append_right _ h)
theorem iw_X12_judge__X12 : ∀ w ∈ wsX120, w ∈ wsX12_judge := fun _ h => List.mem_cons_of_mem _ (List.mem_append_right _ h)
theorem iw_X12_keep__X12 : ∀ w ∈ wsX120, w ∈ wsX12_keep := fun _ h => List.mem_cons_of_mem _ (List.mem_append_right _ h)
theorem iw_X12_lawfulBut__X12 : ∀ w ∈ wsX120, w ∈ wsX12_lawfulBut := fun _ h => List.mem_cons_of_mem _ (List.mem_append_right _ h)
theorem iw_X12_lawful__X12 : ∀ w ∈ wsX120, w ∈ wsX12_lawful := fun _ h => List.mem_cons_of_mem _ (List.mem_append_right _ h)
theorem iw_X12_layApart__X12 : ∀ w ∈ wsX120, w ∈ wsX12_layApart := fun _ h => List.mem_cons_of_mem _ (List.mem_append_right _ h)
theorem iw_X12_layDraws__X12 : ∀ w ∈ wsX120, w ∈ wsX12_layDraws := fun _ h => List.mem_cons_of_mem _ (List.mem_append_right _ h)
theorem iw_X12_layMasks__X12 : ∀ w ∈ wsX120, w ∈ wsX12_layMasks := fun _ h => List.mem_cons_of_mem _ (List.mem_append_right _ h)
theorem iw_X12_layRows__X12 : ∀ w ∈ wsX120, w ∈ wsX12_layRows := fun _ h => List.mem_cons_of_mem _ (List.mem_append_right _ h)
theorem iw_X12_layStage__X12 : ∀ w ∈ wsX120, w ∈ wsX12_layStage := fun _ h => List.mem_cons_of_mem _ (List.mem_append_right _ h)
theorem iw_X12_laySwaps__X12 : ∀ w ∈ wsX120, w ∈ wsX12_laySwaps := fun _ h => List.mem_cons_of_mem _ (List.mem_append_right _ h)
theorem iw_X12_layWeights__X12 : ∀ w ∈ wsX120, w ∈ wsX12_layWeights := fun _ h => List.mem_cons_of_mem _ (List.mem_append_right _ h)
theorem iw_X12_leads__X12 : ∀ w ∈ wsX120, w ∈ wsX12_leads := fun _ h => List.mem_cons_of_mem _ (List.mem_append_right _ h)
theorem iw_X12_leave__X12 : ∀ w ∈ wsX120, w ∈ wsX12_leave := fun _ h => List.mem_cons_of_mem _ (List.mem_append_right _ h)
theorem iw_X12_mix__X12 : ∀ w ∈ wsX120, w ∈ wsX12_mix := fun _ h => List.mem_cons_of_mem _ (List.mem_append_right _ h)
theorem iw_X12_mixed__X12 : ∀ w ∈ wsX120, w ∈ wsX12_mixed := fun _ h => List.mem_cons_of_mem _ (List.mem_append_right _ h)
theorem iw_X12_mixesOne__X12 : ∀ w ∈ wsX120, w ∈ wsX12_mixesOne := fun _ h => List.mem_cons_of_mem _ (List.mem_append_right _ h)
theorem iw_X12_mixes__X12 : ∀ w ∈ wsX120, w ∈ wsX12_mixes := fun _ h => List.mem_cons_of_mem _ (List.mem_append_right _ h)
theorem iw_X12_moves__X12 : ∀ w ∈ wsX120, w ∈ wsX12_moves := fun _ h => List.mem_cons_of_mem _ (List.mem_append_right _ h)
theorem iw_X12_named__X12 : ∀ w ∈ wsX120, w ∈ wsX12_named := fun _ h => List.mem_cons_of_mem _ (List.mem_append_right _ h)
theorem iw_X12_nearest__X12 : ∀ w ∈ wsX120, w ∈ wsX12_nearest := fun _ h => List.mem_cons_of_mem _ (List.mem_append_right _ h)
theorem iw_X12_order__X12 : ∀ w ∈ wsX120, w ∈ wsX12_order := fun _ h => List.mem_cons_of_mem _ (List.mem_append_right _ h)
theorem iw_X12_pair__X12 : ∀ w ∈ wsX120, w ∈ wsX12_pair := fun _ h => List.mem_cons_of_mem _ (List.mem_append_right _ h)
theorem iw_X12_parts__X12 : ∀ w ∈ wsX120, w ∈ wsX12_parts := fun _ h => List.mem_cons_of_mem _ (List.mem_append_right _ h)
theorem iw_X12_place__X12 : ∀ w ∈ wsX120, w ∈ wsX12_place := fun _ h => List.mem_cons_of_mem _ (List.mem_append_right _ h)
theorem iw_X12_placed__X12 : ∀ w ∈ wsX120, w ∈ wsX12_placed := fun _ h => List.mem_cons_of_mem _ (List.mem_append_right _ h)
theorem iw_X12_plain__X12 : ∀ w ∈ wsX120, w ∈ wsX12_plain := fun _ h => List.mem_cons_of_mem _ (List.mem_append_right _ h)
theorem iw_X12_rankOf__X12 : ∀ w ∈ wsX120, w ∈ wsX12_rankOf := fun _ h => List.mem_cons_of_mem _ (List.mem_append_right _ h)
theorem iw_X12_run__X12 : ∀ w ∈ wsX120, w ∈ wsX12_run := fun _ h => List.mem_cons_of_mem _ (List.mem_append_right _ h)
theorem iw_X12_take__X12 : ∀ w ∈ wsX120, w ∈ wsX12_take := fun _ h => List.mem_cons_of_mem _ (List.mem_append_right _ h)
theorem iw_X12_teams__X12 : ∀ w ∈ wsX120, w ∈ wsX12_teams := fun _ h => List.mem_cons_of_mem _ (List.mem_append_right _ h)
theorem iw_X12_text__X12 : ∀ w ∈ wsX120, w ∈ wsX12_text := fun _ h => List.mem_cons_of_mem _ (List.mem_append_right _ h)
theorem iw_X12_turnsAs__X12 : ∀ w ∈ wsX120, w ∈ wsX12_turnsAs := fun _ h => List.mem_cons_of_mem _ (List.mem_append_right _ h)
theorem iw_X12_undo__X12 : ∀ w ∈ wsX120, w ∈ wsX12_undo := fun _ h => List.mem_cons_of_mem _ (List.mem_append_right _ h)
theorem iw_X12_whyOf__X12 : ∀ w ∈ wsX120, w ∈ wsX12_whyOf := fun _ h => List.mem_cons_of_mem _ (List.mem_append_right _ h)
theorem iw_X12_why__X12 : ∀ w ∈ wsX120, w ∈ wsX12_why := fun _ h => List.mem_cons_of_mem _ (List.mem_append_right _ h)
theorem iw_X12_without__X12 : ∀ w ∈ wsX120, w ∈ wsX12_without := fun _ h => List.mem_cons_of_mem _ (List.mem_append_right _ h)
theorem iw_X1_forget__X1 : ∀ w ∈ wsX10, w ∈ wsX1_forget := fun _ h => List.mem_cons_of_mem _ (List.mem_append_right _ h)
theorem iw_X1_init__X1 : ∀ w ∈ wsX10, w ∈ wsX1_init := fun _ h => List.mem_cons_of_mem _ (List.mem_append_right _ h)
theorem iw_X2_init__X2 : ∀ w ∈ wsX20, w ∈ wsX2_init := fun _ h => List.mem_cons_of_mem _ (List.mem_append_right _ h)
theorem iw_X2_listLawful__X2 : ∀ w ∈ wsX20, w ∈ wsX2_listLawful := fun _ h => List.mem_cons_of_mem _ (List.mem_append_right _ h)
theorem iw_X2_renew__Jx00060 : ∀ w ∈ wsJx000600, w ∈ wsX2_renew := fun _ h => List.mem_cons_of_mem _ (List.mem_append_right _ h)
theorem iw_X2_renew__X2 : ∀ w ∈ wsX20, w ∈ wsX2_renew := fun _ h => List.mem_cons_of_mem _ (List.mem_append_left _ (List.mem_append_left _ (List.mem_append_left _ (List.mem_append_right _ h))))
theorem iw_X2_renew__X3 : ∀ w ∈ wsX30, w ∈ wsX2_renew := fun _ h => List.mem_cons_of_mem _ (List.mem_append_left _ (List.mem_append_left _ (List.mem_append_right _ h)))
theorem iw_X2_tellWithin__X2 : ∀ w ∈ wsX20, w ∈ wsX2_tellWithin := fun _ h => List.mem_cons_of_mem _ (List.mem_append_left _ (List.mem_append_right _ h))
theorem iw_X2_tellWithin__X3 : ∀ w ∈ wsX30, w ∈ wsX2_tellWithin := fun _ h => List.mem_cons_of_mem _ (List.mem_append_right _ h)
theorem iw_X3_forget__X3 : ∀ w ∈ wsX30, w ∈ wsX3_forget := fun _ h => List.mem_cons_of_mem _ (List.mem_append_right _ h)
theorem iw_X3_init__X3 : ∀ w ∈ wsX30, w ∈ wsX3_init := fun _ h => List.mem_cons_of_mem _ (List.mem_append_right _ h)
theorem iw_X3_isGroupNamed__X3 : ∀ w ∈ wsX30, w ∈ wsX3_isGroupNamed := fun _ h => List.mem_cons_of_mem _ (List.mem_append_right _ h)
theorem iw_X3_markNamed__X3 : ∀ w ∈ wsX30, w ∈ wsX3_markNamed := fun _ h => List.mem_cons_of_mem _ (List.mem_append_right _ h)
theorem iw_X3_potOf__X3 : ∀ w ∈ wsX30, w ∈ wsX3_potOf := fun _ h => List.mem_cons_of_mem _ (List.mem_append_right _ h)
theorem iw_X3_take__X3 : ∀ w ∈ wsX30, w ∈ wsX3_take := fun _ h => List.mem_cons_of_mem _ (List.mem_append_right _ h)
theorem iw_X3_teamNamed__X3 : ∀ w ∈ wsX30, w ∈ wsX3_teamNamed := fun _ h => List.mem_cons_of_mem _ (List.mem_append_right _ h)
theorem iw_X4_addRow__X4 : ∀ w ∈ wsX40, w ∈ wsX4_addRow := fun _ h => List.mem_cons_of_mem _ (List.mem_append_right _ h)
theorem iw_X4_groupAt__X4 : ∀ w ∈ wsX40, w ∈ wsX4_groupAt := fun _ h => List.mem_cons_of_mem _ (List.mem_append_right _ h)
theorem iw_X4_init__X4 : ∀ w ∈ wsX40, w ∈ wsX4_init := fun _ h => List.mem_cons_of_mem _ (List.mem_append_right _ h)
theorem iw_X4_rankWithSwapped__X4 : ∀ w ∈ wsX40, w ∈ wsX4_rankWithSwapped := fun _ h => List.mem_cons_of_mem _ (List.mem_append_right _ h)
theorem iw_X4_setSwaps__X4 : ∀ w ∈ wsX40, w ∈ wsX4_setSwaps := fun _ h => List.mem_cons_of_mem _ (List.mem_append_right _ h)
theorem iw_X4_set__X4 : ∀ w ∈ wsX40, w ∈ wsX4_set := fun _ h => List.mem_cons_of_mem _ (List.mem_append_right _ h)
theorem iw_X5_init__X3 : ∀ w ∈ wsX30, w ∈ wsX5_init := fun _ h => List.mem_cons_of_mem _ (List.mem_append_left _ (List.mem_append_right _ h))
theorem iw_X5_init__X5 : ∀ w ∈ wsX50, w ∈ wsX5_init := fun _ h => List.mem_cons_of_mem _ (List.mem_append_right _ h)
theorem iw_X5_readLines__X3 : ∀ w ∈ wsX30, w ∈ wsX5_readLines := fun _ h => List.mem_cons_of_mem _ (List.mem_append_right _ h)
theorem iw_X5_readLines__X5 : ∀ w ∈ wsX50, w ∈ wsX5_readLines := fun _ h => List.mem_cons_of_mem _ (List.mem_append_left _ (List.mem_append_right _ h))
theorem iw_X5_step__X5 : ∀ w ∈ wsX50, w ∈ wsX5_step := fun _ h => List.mem_cons_of_mem _ (List.mem_append_right _ h)
theorem iw_X6_addAhead__X1 : ∀ w ∈ wsX10, w ∈ wsX6_addAhead := fun _ h => List.mem_cons_of_mem _ (List.mem_append_left _ (List.mem_append_left _ (List.mem_append_left _ (List.mem_append_left _ (List.mem_append_right _ h)))))
theorem iw_X6_beginAtStart__X3 : ∀ w ∈ wsX30, w ∈ wsX6_beginAtStart := fun _ h => List.mem_cons_of_mem _ (List.mem_append_left _ (List.mem_append_right _ h))
theorem iw_X6_beginAtStart__X4 : ∀ w ∈ wsX40, w ∈ wsX6_beginAtStart := fun _ h => List.mem_cons_of_mem _ (List.mem_append_left _ (List.mem_append_left _ (List.mem_append_right _ h)))
theorem iw_X6_beginAtStart__X6 : ∀ w ∈ wsX60, w ∈ wsX6_beginAtStart := fun _ h => List.mem_cons_of_mem _ (List.mem_append_left _ (List.mem_append_left _ (List.mem_append_left _ (List.mem_append_right _ h))))
theorem iw_X6_beginAtStart__X7 : ∀ w ∈ wsX70, w ∈ wsX6_beginAtStart := fun _ h => List.mem_cons_of_mem _ (List.mem_append_right _ h)
theorem iw_X6_init__X2 : ∀ w ∈ wsX20, w ∈ wsX6_init := fun _ h => List.mem_cons_of_mem _ (List.mem_append_left _ (List.mem_append_right _ h))
theorem iw_X6_init__X6 : ∀ w ∈ wsX60, w ∈ wsX6_init := fun _ h => List.mem_cons_of_mem _ (List.mem_append_left _ (List.mem_append_left _ (List.mem_append_right _ h)))
theorem iw_X6_init__X7 : ∀ w ∈ wsX70, w ∈ wsX6_init := fun _ h => List.mem_cons_of_mem _ (List.mem_append_right _ h)
theorem iw_X6_reckon__X1 : ∀ w ∈ wsX10, w ∈ wsX6_reckon := fun _ h => List.mem_cons_of_mem _ (List.mem_append_left _ (List.mem_append_left _ (List.mem_append_left _ (List.mem_append_left _ (List.mem_append_right _ h)))))
theorem iw_X6_reckon__X10 : ∀ w ∈ wsX100, w ∈ wsX6_reckon := fun _ h => List.mem_cons_of_mem _ (List.mem_append_left _ (List.mem_append_right _ h))
theorem iw_X6_reckon__X3 : ∀ w ∈ wsX30, w ∈ wsX6_reckon := fun _ h => List.mem_cons_of_mem _ (List.mem_append_left _ (List.mem_append_left _ (List.mem_append_left _ (List.mem_append_left _ (List.mem_append_left _ (List.mem_append_right _ h))))))
theorem iw_X6_reckon__X4 : ∀ w ∈ wsX40, w ∈ wsX6_reckon := fun _ h => List.mem_cons_of_mem _ (List.mem_append_left _ (List.mem_append_left _ (List.mem_append_right _ h)))
theorem iw_X6_reckon__X6 : ∀ w ∈ wsX60, w ∈ wsX6_reckon := fun _ h => List.mem_cons_of_mem _ (List.mem_append_left _ (List.mem_append_left _ (List.mem_append_left _ (List.mem_append_left _ (List.mem_append_left _ (List.mem_append_left _ (List.mem_append_right _ h)))))))
theorem iw_X7_begin__X7 : ∀ w ∈ wsX70, w ∈ wsX7_begin := fun _ h => List.mem_cons_of_mem _ (List.mem_append_right _ h)
theorem iw_X7_init__X7 : ∀ w ∈ wsX70, w ∈ wsX7_init := fun _ h => List.mem_cons_of_mem _ (List.mem_append_right _ h)
theorem iw_X8_empty__X8 : ∀ w ∈ wsX80, w ∈ wsX8_empty := fun _ h => List.mem_cons_of_mem _ (List.mem_append_right _ h)
theorem iw_X8_fullPots__X3 : ∀ w ∈ wsX30, w ∈ wsX8_fullPots := fun _ h => List.mem_cons_of_mem _ (List.mem_append_right _ h)
theorem iw_X8_fullPots__X8 : ∀ w ∈ wsX80, w ∈ wsX8_fullPots := fun _ h => List.mem_cons_of_mem _ (List.mem_append_left _ (List.mem_append_right _ h))
theorem iw_X8_init__X8 : ∀ w ∈ wsX80, w ∈ wsX8_init := fun _ h => List.mem_cons_of_mem _ (List.mem_append_right _ h)
theorem iw_X8_putInTurn__X8 : ∀ w ∈ wsX80, w ∈ wsX8_putInTurn := fun _ h => List.mem_cons_of_mem _ (List.mem_append_right _ h)
theorem iw_X8_reason__X8 : ∀ w ∈ wsX80, w ∈ wsX8_reason := fun _ h => List.mem_cons_of_mem _ (List.mem_append_left _ (List.mem_append_right _ h))
theorem iw_X8_rowsLeft__X3 : ∀ w ∈ wsX30, w ∈ wsX8_rowsLeft := fun _ h => List.mem_cons_of_mem _ (List.mem_append_right _ h)
theorem iw_X8_rowsLeft__X8 : ∀ w ∈ wsX80, w ∈ wsX8_rowsLeft := fun _ h => List.mem_cons_of_mem _ (List.mem_append_left _ (List.mem_append_right _ h))
theorem iw_X9_allRows__X2 : ∀ w ∈ wsX20, w ∈ wsX9_allRows := fun _ h => List.mem_cons_of_mem _ (List.mem_append_left _ (List.mem_append_left _ (List.mem_append_right _ h)))
theorem iw_X9_allRows__X3 : ∀ w ∈ wsX30, w ∈ wsX9_allRows := fun _ h => List.mem_cons_of_mem _ (List.mem_append_left _ (List.mem_append_right _ h))
theorem iw_X9_allRows__X4 : ∀ w ∈ wsX40, w ∈ wsX9_allRows := fun _ h => List.mem_cons_of_mem _ (List.mem_append_right _ h)
theorem iw_X9_allRows__X9 : ∀ w ∈ wsX90, w ∈ wsX9_allRows := fun _ h => List.mem_cons_of_mem _ (List.mem_append_left _ (List.mem_append_left _ (List.mem_append_left _ (List.mem_append_right _ h))))
theorem iw_X9_clearRows__Jx00060 : ∀ w ∈ wsJx000600, w ∈ wsX9_clearRows := fun _ h => List.mem_cons_of_mem _ (List.mem_append_right _ h)
theorem iw_X9_clearRows__X2 : ∀ w ∈ wsX20, w ∈ wsX9_clearRows := fun _ h => List.mem_cons_of_mem _ (List.mem_append_left _ (List.mem_append_right _ h))
theorem iw_X9_clearRows__X9 : ∀ w ∈ wsX90, w ∈ wsX9_clearRows := fun _ h => List.mem_cons_of_mem _ (List.mem_append_left _ (List.mem_append_left _ (List.mem_append_right _ h)))
theorem iw_X9_findParts__Jx00060 : ∀ w ∈ wsJx000600, w ∈ wsX9_findParts := fun _ h => List.mem_cons_of_mem _ (List.mem_append_left _ (List.mem_append_left _ (List.mem_append_right _ h)))
theorem iw_X9_findParts__X2 : ∀ w ∈ wsX20, w ∈ wsX9_findParts := fun _ h => List.mem_cons_of_mem _ (List.mem_append_left _ (List.mem_append_left _ (List.mem_append_left _ (List.mem_append_right _ h))))
theorem iw_X9_findParts__X3 : ∀ w ∈ wsX30, w ∈ wsX9_findParts := fun _ h => List.mem_cons_of_mem _ (List.mem_append_left _ (List.mem_append_right _ h))
theorem iw_X9_findParts__X4 : ∀ w ∈ wsX40, w ∈ wsX9_findParts := fun _ h => List.mem_cons_of_mem _ (List.mem_append_right _ h)
theorem iw_X9_findParts__X9 : ∀ w ∈ wsX90, w ∈ wsX9_findParts := fun _ h => List.mem_cons_of_mem _ (List.mem_append_left _ (List.mem_append_left _ (List.mem_append_left _ (List.mem_append_left _ (List.mem_append_right _ h)))))
theorem iw_X9_forget__X9 : ∀ w ∈ wsX90, w ∈ wsX9_forget := fun _ h => List.mem_cons_of_mem _ (List.mem_append_right _ h)
theorem iw_X9_howManyParts__Jx00060 : ∀ w ∈ wsJx000600, w ∈ wsX9_howManyParts := fun _ h => List.mem_cons_of_mem _ (List.mem_append_left _ (List.mem_append_left _ (List.mem_append_right _ h)))
theorem iw_X9_howManyParts__X2 : ∀ w ∈ wsX20, w ∈ wsX9_howManyParts := fun _ h => List.mem_cons_of_mem _ (List.mem_append_left _ (List.mem_append_left _ (List.mem_append_left _ (List.mem_append_right _ h))))
theorem iw_X9_howManyParts__X3 : ∀ w ∈ wsX30, w ∈ wsX9_howManyParts := fun _ h => List.mem_cons_of_mem _ (List.mem_append_left _ (List.mem_append_right _ h))
theorem iw_X9_howManyParts__X4 : ∀ w ∈ wsX40, w ∈ wsX9_howManyParts := fun _ h => List.mem_cons_of_mem _ (List.mem_append_right _ h)
theorem iw_X9_howManyParts__X9 : ∀ w ∈ wsX90, w ∈ wsX9_howManyParts := fun _ h => List.mem_cons_of_mem _ (List.mem_append_left _ (List.mem_append_left _ (List.mem_append_left _ (List.mem_append_left _ (List.mem_append_right _ h)))))
theorem iw_X9_init__X2 : ∀ w ∈ wsX20, w ∈ wsX9_init := fun _ h => List.mem_cons_of_mem _ (List.mem_append_right _ h)
theorem iw_X9_init__X9 : ∀ w ∈ wsX90, w ∈ wsX9_init := fun _ h => List.mem_cons_of_mem _ (List.mem_append_left _ (List.mem_append_right _ h))
theorem iw_X9_meetSwapped__X2 : ∀ w ∈ wsX20, w ∈ wsX9_meetSwapped := fun _ h => List.mem_cons_of_mem _ (List.mem_append_left _ (List.mem_append_left _ (List.mem_append_right _ h)))
theorem iw_X9_meetSwapped__X3 : ∀ w ∈ wsX30, w ∈ wsX9_meetSwapped := fun _ h => List.mem_cons_of_mem _ (List.mem_append_left _ (List.mem_append_right _ h))
theorem iw_X9_meetSwapped__X9 : ∀ w ∈ wsX90, w ∈ wsX9_meetSwapped := fun _ h => List.mem_cons_of_mem _ (List.mem_append_left _ (List.mem_append_left _ (List.mem_append_left _ (List.mem_append_right _ h))))
theorem iw_X9_meet__X9 : ∀ w ∈ wsX90, w ∈ wsX9_meet := fun _ h => List.mem_cons_of_mem _ (List.mem_append_right _ h)
theorem iw_X9_pass__X2 : ∀ w ∈ wsX20, w ∈ wsX9_pass := fun _ h => List.mem_cons_of_mem _ (List.mem_append_left _ (List.mem_append_left _ (List.mem_append_right _ h)))
theorem iw_X9_pass__X3 : ∀ w ∈ wsX30, w ∈ wsX9_pass := fun _ h => List.mem_cons_of_mem _ (List.mem_append_left _ (List.mem_append_right _ h))
theorem iw_X9_pass__X9 : ∀ w ∈ wsX90, w ∈ wsX9_pass := fun _ h => List.mem_cons_of_mem _ (List.mem_append_left _ (List.mem_append_left _ (List.mem_append_left _ (List.mem_append_right _ h))))
theorem iw_X9_rowsTo__Jx00060 : ∀ w ∈ wsJx000600, w ∈ wsX9_rowsTo := fun _ h => List.mem_cons_of_mem _ (List.mem_append_left _ (List.mem_append_left _ (List.mem_append_right _ h)))
theorem iw_X9_rowsTo__X2 : ∀ w ∈ wsX20, w ∈ wsX9_rowsTo := fun _ h => List.mem_cons_of_mem _ (List.mem_append_left _ (List.mem_append_left _ (List.mem_append_left _ (List.mem_append_right _ h))))
theorem iw_X9_rowsTo__X3 : ∀ w ∈ wsX30, w ∈ wsX9_rowsTo := fun _ h => List.mem_cons_of_mem _ (List.mem_append_left _ (List.mem_append_right _ h))
theorem iw_X9_rowsTo__X4 : ∀ w ∈ wsX40, w ∈ wsX9_rowsTo := fun _ h => List.mem_cons_of_mem _ (List.mem_append_right _ h)
theorem iw_X9_rowsTo__X9 : ∀ w ∈ wsX90, w ∈ wsX9_rowsTo := fun _ h => List.mem_cons_of_mem _ (List.mem_append_left _ (List.mem_append_left _ (List.mem_append_left _ (List.mem_append_left _ (List.mem_append_right _ h)))))
theorem iw_X9_sizeOfFirstPart__Jx00060 : ∀ w ∈ wsJx000600, w ∈ wsX9_sizeOfFirstPart := fun _ h => List.mem_cons_of_mem _ (List.mem_append_left _ (List.mem_append_left _ (List.mem_append_right _ h)))
theorem iw_X9_sizeOfFirstPart__X2 : ∀ w ∈ wsX20, w ∈ wsX9_sizeOfFirstPart := fun _ h => List.mem_cons_of_mem _ (List.mem_append_left _ (List.mem_append_left _ (List.mem_append_left _ (List.mem_append_right _ h))))
theorem iw_X9_sizeOfFirstPart__X3 : ∀ w ∈ wsX30, w ∈ wsX9_sizeOfFirstPart := fun _ h => List.mem_cons_of_mem _ (List.mem_append_left _ (List.mem_append_right _ h))
theorem iw_X9_sizeOfFirstPart__X4 : ∀ w ∈ wsX40, w ∈ wsX9_sizeOfFirstPart := fun _ h => List.mem_cons_of_mem _ (List.mem_append_right _ h)
theorem iw_X9_sizeOfFirstPart__X9 : ∀ w ∈ wsX90, w ∈ wsX9_sizeOfFirstPart := fun _ h => List.mem_cons_of_mem _ (List.mem_append_left _ (List.mem_append_left _ (List.mem_append_left _ (List.mem_append_left _ (List.mem_append_right _ h)))))
theorem iw_X9_sizeOfGreatestPart__Jx00060 : ∀ w ∈ wsJx000600, w ∈ wsX9_sizeOfGreatestPart := fun _ h => List.mem_cons_of_mem _ (List.mem_append_left _ (List.mem_append_left _ (List.mem_append_right _ h)))
theorem iw_X9_sizeOfGreatestPart__X2 : ∀ w ∈ wsX20, w ∈ wsX9_sizeOfGreatestPart := fun _ h => List.mem_cons_of_mem _ (List.mem_append_left _ (List.mem_append_left _ (List.mem_append_left _ (List.mem_append_right _ h))))
theorem iw_X9_sizeOfGreatestPart__X3 : ∀ w ∈ wsX30, w ∈ wsX9_sizeOfGreatestPart := fun _ h => List.mem_cons_of_mem _ (List.mem_append_left _ (List.mem_append_right _ h))
theorem iw_X9_sizeOfGreatestPart__X4 : ∀ w ∈ wsX40, w ∈ wsX9_sizeOfGreatestPart := fun _ h => List.mem_cons_of_mem _ (List.mem_append_right _ h)
theorem iw_X9_sizeOfGreatestPart__X9 : ∀ w ∈ wsX90, w ∈ wsX9_sizeOfGreatestPart := fun _ h => List.mem_cons_of_mem _ (List.mem_append_left _ (List.mem_append_left _ (List.mem_append_left _ (List.mem_append_left _ (List.mem_append_right _ h)))))
theorem iw_X9_sizeOfPart__X2 : ∀ w ∈ wsX20, w ∈ wsX9_sizeOfPart := fun _ h => List.mem_cons_of_mem _ (List.mem_append_left _ (List.mem_append_left _ (List.mem_append_right _ h)))
theorem iw_X9_sizeOfPart__X3 : ∀ w ∈ wsX30, w ∈ wsX9_sizeOfPart := fun _ h => List.mem_cons_of_mem _ (List.mem_append_left _ (List.mem_append_right _ h))
theorem iw_X9_sizeOfPart__X4 : ∀ w ∈ wsX40, w ∈ wsX9_sizeOfPart := fun _ h => List.mem_cons_of_mem _ (List.mem_append_right _ h)
theorem iw_X9_sizeOfPart__X9 : ∀ w ∈ wsX90, w ∈ wsX9_sizeOfPart := fun _ h => List.mem_cons_of_mem _ (List.mem_append_left _ (List.mem_append_left _ (List.mem_append_left _ (List.mem_append_right _ h))))
theorem iw_X9_swapOnce__Jx00060 : ∀ w ∈ wsJx000600, w ∈ wsX9_swapOnce := fun _ h => List.mem_cons_of_mem _ (List.mem_append_left _ (List.mem_append_left _ (List.mem_append_right _ h)))
theorem iw_X9_swapOnce__X2 : ∀ w ∈ wsX20, w ∈ wsX9_swapOnce := fun _ h => List.mem_cons_of_mem _ (List.mem_append_left _ (List.mem_append_left _ (List.mem_append_left _ (List.mem_append_right _ h))))
theorem iw_X9_swapOnce__X3 : ∀ w ∈ wsX30, w ∈ wsX9_swapOnce := fun _ h => List.mem_cons_of_mem _ (List.mem_append_left _ (List.mem_append_right _ h))
theorem iw_X9_swapOnce__X4 : ∀ w ∈ wsX40, w ∈ wsX9_swapOnce := fun _ h => List.mem_cons_of_mem _ (List.mem_append_right _ h)
theorem iw_X9_swapOnce__X9 : ∀ w ∈ wsX90, w ∈ wsX9_swapOnce := fun _ h => List.mem_cons_of_mem _ (List.mem_append_left _ (List.mem_append_left _ (List.mem_append_left _ (List.mem_append_left _ (List.mem_append_right _ h)))))
theorem iw_X9_swapTimes__Jx00060 : ∀ w ∈ wsJx000600, w ∈ wsX9_swapTimes := fun _ h => List.mem_cons_of_mem _ (List.mem_append_left _ (List.mem_append_left _ (List.mem_append_right _ h)))
theorem iw_X9_swapTimes__X2 : ∀ w ∈ wsX20, w ∈ wsX9_swapTimes := fun _ h => List.mem_cons_of_mem _ (List.mem_append_left _ (List.mem_append_left _ (List.mem_append_left _ (List.mem_append_right _ h))))
theorem iw_X9_swapTimes__X3 : ∀ w ∈ wsX30, w ∈ wsX9_swapTimes := fun _ h => List.mem_cons_of_mem _ (List.mem_append_left _ (List.mem_append_right _ h))
theorem iw_X9_swapTimes__X4 : ∀ w ∈ wsX40, w ∈ wsX9_swapTimes := fun _ h => List.mem_cons_of_mem _ (List.mem_append_right _ h)
theorem iw_X9_swapTimes__X9 : ∀ w ∈ wsX90, w ∈ wsX9_swapTimes := fun _ h => List.mem_cons_of_mem _ (List.mem_append_left _ (List.mem_append_left _ (List.mem_append_left _ (List.mem_append_left _ (List.mem_append_right _ h)))))
theorem iw_X9_uneven__Jx00060 : ∀ w ∈ wsJx000600, w ∈ wsX9_uneven := fun _ h => List.mem_cons_of_mem _ (List.mem_append_left _ (List.mem_append_left _ (List.mem_append_right _ h)))
theorem iw_X9_uneven__X2 : ∀ w ∈ wsX20, w ∈ wsX9_uneven := fun _ h => List.mem_cons_of_mem _ (List.mem_append_left _ (List.mem_append_left _ (List.mem_append_left _ (List.mem_append_right _ h))))
theorem iw_X9_uneven__X3 : ∀ w ∈ wsX30, w ∈ wsX9_uneven := fun _ h => List.mem_cons_of_mem _ (List.mem_append_left _ (List.mem_append_right _ h))
theorem iw_X9_uneven__X4 : ∀ w ∈ wsX40, w ∈ wsX9_uneven := fun _ h => List.mem_cons_of_mem _ (List.mem_append_right _ h)
theorem iw_X9_uneven__X9 : ∀ w ∈ wsX90, w ∈ wsX9_uneven := fun _ h => List.mem_cons_of_mem _ (List.mem_append_left _ (List.mem_append_left _ (List.mem_append_left _ (List.mem_append_left _ (List.mem_append_right _ h)))))
theorem pn_J6_bitCount_0f7a4 : plainName yJ6_bitCount_0f7a4.cls = true := by decide +kernel
theorem pn_J7_fill_53178 : plainName yJ7_fill_53178.cls = true := by decide +kernel
theorem pn_J7_fill_d0a16 : plainName yJ7_fill_d0a16.cls = true := by decide +kernel
theorem pn_J7_fill_fda19 : plainName yJ7_fill_fda19.cls = true := by decide +kernel
theorem pn_J7_rangeCheck_23922 : plainName yJ7_rangeCheck_23922.cls = true := by decide +kernel
theorem pn_X0_init : plainName yX0_init.cls = true := by decide +kernel
theorem pn_X0_isEvenEnough : plainName yX0_isEvenEnough.cls = true := by decide +kernel
theorem pn_X10_build : plainName yX10_build.cls = true := by decide +kernel
theorem pn_X10_init : plainName yX10_init.cls = true := by decide +kernel
theorem pn_X11_all : plainName yX11_all.cls = true := by decide +kernel
theorem pn_X11_apart : plainName yX11_apart.cls = true := by decide +kernel
theorem pn_X11_apartByArrangement : plainName yX11_apartByArrangement.cls = true := by decide +kernel
theorem pn_X11_apartByOrder : plainName yX11_apartByOrder.cls = true := by decide +kernel
theorem pn_X11_ball : plainName yX11_ball.cls = true := by decide +kernel
theorem pn_X11_beginAnew : plainName yX11_beginAnew.cls = true := by decide +kernel
theorem pn_X11_bitsOf : plainName yX11_bitsOf.cls = true := by decide +kernel
theorem pn_X11_blame : plainName yX11_blame.cls = true := by decide +kernel
theorem pn_X11_chancesAtStart : plainName yX11_chancesAtStart.cls = true := by decide +kernel
theorem pn_X11_chancesNow : plainName yX11_chancesNow.cls = true := by decide +kernel
theorem pn_X11_clear : plainName yX11_clear.cls = true := by decide +kernel
theorem pn_X11_count : plainName yX11_count.cls = true := by decide +kernel
theorem pn_X11_draw : plainName yX11_draw.cls = true := by decide +kernel
theorem pn_X11_ends : plainName yX11_ends.cls = true := by decide +kernel
theorem pn_X11_evenly : plainName yX11_evenly.cls = true := by decide +kernel
theorem pn_X11_farthest : plainName yX11_farthest.cls = true := by decide +kernel
theorem pn_X11_fault : plainName yX11_fault.cls = true := by decide +kernel
theorem pn_X11_feed : plainName yX11_feed.cls = true := by decide +kernel
theorem pn_X11_findNearest : plainName yX11_findNearest.cls = true := by decide +kernel
theorem pn_X11_forbids : plainName yX11_forbids.cls = true := by decide +kernel
theorem pn_X11_init : plainName yX11_init.cls = true := by decide +kernel
theorem pn_X11_isBar : plainName yX11_isBar.cls = true := by decide +kernel
theorem pn_X11_isCode : plainName yX11_isCode.cls = true := by decide +kernel
theorem pn_X11_isGroup : plainName yX11_isGroup.cls = true := by decide +kernel
theorem pn_X11_isTeam : plainName yX11_isTeam.cls = true := by decide +kernel
theorem pn_X11_isWay : plainName yX11_isWay.cls = true := by decide +kernel
theorem pn_X11_judge : plainName yX11_judge.cls = true := by decide +kernel
theorem pn_X11_lawful : plainName yX11_lawful.cls = true := by decide +kernel
theorem pn_X11_leads : plainName yX11_leads.cls = true := by decide +kernel
theorem pn_X11_leave : plainName yX11_leave.cls = true := by decide +kernel
theorem pn_X11_likeAnEarlierOne : plainName yX11_likeAnEarlierOne.cls = true := by decide +kernel
theorem pn_X11_mix : plainName yX11_mix.cls = true := by decide +kernel
theorem pn_X11_mixed : plainName yX11_mixed.cls = true := by decide +kernel
theorem pn_X11_moves : plainName yX11_moves.cls = true := by decide +kernel
theorem pn_X11_named : plainName yX11_named.cls = true := by decide +kernel
theorem pn_X11_nearest : plainName yX11_nearest.cls = true := by decide +kernel
theorem pn_X11_order : plainName yX11_order.cls = true := by decide +kernel
theorem pn_X11_pair : plainName yX11_pair.cls = true := by decide +kernel
theorem pn_X11_parts : plainName yX11_parts.cls = true := by decide +kernel
theorem pn_X11_place : plainName yX11_place.cls = true := by decide +kernel
theorem pn_X11_placed : plainName yX11_placed.cls = true := by decide +kernel
theorem pn_X11_readTurns : plainName yX11_readTurns.cls = true := by decide +kernel
theorem pn_X11_run : plainName yX11_run.cls = true := by decide +kernel
theorem pn_X11_sizeOfFarthest : plainName yX11_sizeOfFarthest.cls = true := by decide +kernel
theorem pn_X11_stageChanged : plainName yX11_stageChanged.cls = true := by decide +kernel
theorem pn_X11_startChanged : plainName yX11_startChanged.cls = true := by decide +kernel
theorem pn_X11_sumOfFar : plainName yX11_sumOfFar.cls = true := by decide +kernel
theorem pn_X11_tapeFour : plainName yX11_tapeFour.cls = true := by decide +kernel
theorem pn_X11_text : plainName yX11_text.cls = true := by decide +kernel
theorem pn_X11_treeOfNow : plainName yX11_treeOfNow.cls = true := by decide +kernel
theorem pn_X11_undo : plainName yX11_undo.cls = true := by decide +kernel
theorem pn_X11_why : plainName yX11_why.cls = true := by decide +kernel
theorem pn_X11_without : plainName yX11_without.cls = true := by decide +kernel
theorem pn_X12_agreeing : plainName yX12_agreeing.cls = true := by decide +kernel
theorem pn_X12_all : plainName yX12_all.cls = true := by decide +kernel
theorem pn_X12_allRows : plainName yX12_allRows.cls = true := by decide +kernel
theorem pn_X12_apart : plainName yX12_apart.cls = true := by decide +kernel
theorem pn_X12_ball : plainName yX12_ball.cls = true := by decide +kernel
theorem pn_X12_blame : plainName yX12_blame.cls = true := by decide +kernel
theorem pn_X12_clear : plainName yX12_clear.cls = true := by decide +kernel
theorem pn_X12_count : plainName yX12_count.cls = true := by decide +kernel
theorem pn_X12_digit : plainName yX12_digit.cls = true := by decide +kernel
theorem pn_X12_draw : plainName yX12_draw.cls = true := by decide +kernel
theorem pn_X12_ends : plainName yX12_ends.cls = true := by decide +kernel
theorem pn_X12_evenly : plainName yX12_evenly.cls = true := by decide +kernel
theorem pn_X12_fault : plainName yX12_fault.cls = true := by decide +kernel
theorem pn_X12_feed : plainName yX12_feed.cls = true := by decide +kernel
theorem pn_X12_fills : plainName yX12_fills.cls = true := by decide +kernel
theorem pn_X12_forbids : plainName yX12_forbids.cls = true := by decide +kernel
theorem pn_X12_init : plainName yX12_init.cls = true := by decide +kernel
theorem pn_X12_isAsPlaced : plainName yX12_isAsPlaced.cls = true := by decide +kernel
theorem pn_X12_isEven : plainName yX12_isEven.cls = true := by decide +kernel
theorem pn_X12_isIn : plainName yX12_isIn.cls = true := by decide +kernel
theorem pn_X12_isOnce : plainName yX12_isOnce.cls = true := by decide +kernel
theorem pn_X12_isTeam : plainName yX12_isTeam.cls = true := by decide +kernel
theorem pn_X12_isWay : plainName yX12_isWay.cls = true := by decide +kernel
theorem pn_X12_judge : plainName yX12_judge.cls = true := by decide +kernel
theorem pn_X12_keep : plainName yX12_keep.cls = true := by decide +kernel
theorem pn_X12_lawful : plainName yX12_lawful.cls = true := by decide +kernel
theorem pn_X12_lawfulBut : plainName yX12_lawfulBut.cls = true := by decide +kernel
theorem pn_X12_layApart : plainName yX12_layApart.cls = true := by decide +kernel
theorem pn_X12_layDraws : plainName yX12_layDraws.cls = true := by decide +kernel
theorem pn_X12_layMasks : plainName yX12_layMasks.cls = true := by decide +kernel
theorem pn_X12_layRows : plainName yX12_layRows.cls = true := by decide +kernel
theorem pn_X12_layStage : plainName yX12_layStage.cls = true := by decide +kernel
theorem pn_X12_laySwaps : plainName yX12_laySwaps.cls = true := by decide +kernel
theorem pn_X12_layWeights : plainName yX12_layWeights.cls = true := by decide +kernel
theorem pn_X12_leads : plainName yX12_leads.cls = true := by decide +kernel
theorem pn_X12_leave : plainName yX12_leave.cls = true := by decide +kernel
theorem pn_X12_many : plainName yX12_many.cls = true := by decide +kernel
theorem pn_X12_mix : plainName yX12_mix.cls = true := by decide +kernel
theorem pn_X12_mixed : plainName yX12_mixed.cls = true := by decide +kernel
theorem pn_X12_mixes : plainName yX12_mixes.cls = true := by decide +kernel
theorem pn_X12_mixesOne : plainName yX12_mixesOne.cls = true := by decide +kernel
theorem pn_X12_moves : plainName yX12_moves.cls = true := by decide +kernel
theorem pn_X12_named : plainName yX12_named.cls = true := by decide +kernel
theorem pn_X12_nearest : plainName yX12_nearest.cls = true := by decide +kernel
theorem pn_X12_order : plainName yX12_order.cls = true := by decide +kernel
theorem pn_X12_pair : plainName yX12_pair.cls = true := by decide +kernel
theorem pn_X12_parts : plainName yX12_parts.cls = true := by decide +kernel
theorem pn_X12_place : plainName yX12_place.cls = true := by decide +kernel
theorem pn_X12_placed : plainName yX12_placed.cls = true := by decide +kernel
theorem pn_X12_plain : plainName yX12_plain.cls = true := by decide +kernel
theorem pn_X12_rankOf : plainName yX12_rankOf.cls = true := by decide +kernel
theorem pn_X12_run : plainName yX12_run.cls = true := by decide +kernel
theorem pn_X12_take : plainName yX12_take.cls = true := by decide +kernel
theorem pn_X12_teams : plainName yX12_teams.cls = true := by decide +kernel
theorem pn_X12_text : plainName yX12_text.cls = true := by decide +kernel
theorem pn_X12_turnsAs : plainName yX12_turnsAs.cls = true := by decide +kernel
theorem pn_X12_undo : plainName yX12_undo.cls = true := by decide +kernel
theorem pn_X12_why : plainName yX12_why.cls = true := by decide +kernel
theorem pn_X12_whyOf : plainName yX12_whyOf.cls = true := by decide +kernel
theorem pn_X12_without : plainName yX12_without.cls = true := by decide +kernel
theorem pn_X1_forget : plainName yX1_forget.cls = true := by decide +kernel
theorem pn_X1_init : plainName yX1_init.cls = true := by decide +kernel
theorem pn_X2_addUp : plainName yX2_addUp.cls = true := by decide +kernel
theorem pn_X2_init : plainName yX2_init.cls = true := by decide +kernel
theorem pn_X2_listLawful : plainName yX2_listLawful.cls = true := by decide +kernel
theorem pn_X2_renew : plainName yX2_renew.cls = true := by decide +kernel
theorem pn_X2_tellWithin : plainName yX2_tellWithin.cls = true := by decide +kernel
theorem pn_X3_find : plainName yX3_find.cls = true := by decide +kernel
theorem pn_X3_forget : plainName yX3_forget.cls = true := by decide +kernel
theorem pn_X3_init : plainName yX3_init.cls = true := by decide +kernel
theorem pn_X3_isGroupNamed : plainName yX3_isGroupNamed.cls = true := by decide +kernel
theorem pn_X3_markNamed : plainName yX3_markNamed.cls = true := by decide +kernel
theorem pn_X3_potOf : plainName yX3_potOf.cls = true := by decide +kernel
theorem pn_X3_take : plainName yX3_take.cls = true := by decide +kernel
theorem pn_X3_teamNamed : plainName yX3_teamNamed.cls = true := by decide +kernel
theorem pn_X4_addRow : plainName yX4_addRow.cls = true := by decide +kernel
theorem pn_X4_groupAt : plainName yX4_groupAt.cls = true := by decide +kernel
theorem pn_X4_init : plainName yX4_init.cls = true := by decide +kernel
theorem pn_X4_only : plainName yX4_only.cls = true := by decide +kernel
theorem pn_X4_rankWithSwapped : plainName yX4_rankWithSwapped.cls = true := by decide +kernel
theorem pn_X4_readRow : plainName yX4_readRow.cls = true := by decide +kernel
theorem pn_X4_set : plainName yX4_set.cls = true := by decide +kernel
theorem pn_X4_setSwaps : plainName yX4_setSwaps.cls = true := by decide +kernel
theorem pn_X5_init : plainName yX5_init.cls = true := by decide +kernel
theorem pn_X5_readLines : plainName yX5_readLines.cls = true := by decide +kernel
theorem pn_X5_step : plainName yX5_step.cls = true := by decide +kernel
theorem pn_X6_addAhead : plainName yX6_addAhead.cls = true := by decide +kernel
theorem pn_X6_beginAtStart : plainName yX6_beginAtStart.cls = true := by decide +kernel
theorem pn_X6_init : plainName yX6_init.cls = true := by decide +kernel
theorem pn_X6_reckon : plainName yX6_reckon.cls = true := by decide +kernel
theorem pn_X7_begin : plainName yX7_begin.cls = true := by decide +kernel
theorem pn_X7_init : plainName yX7_init.cls = true := by decide +kernel
theorem pn_X8_empty : plainName yX8_empty.cls = true := by decide +kernel
theorem pn_X8_fullPots : plainName yX8_fullPots.cls = true := by decide +kernel
theorem pn_X8_init : plainName yX8_init.cls = true := by decide +kernel
theorem pn_X8_putInTurn : plainName yX8_putInTurn.cls = true := by decide +kernel
theorem pn_X8_reason : plainName yX8_reason.cls = true := by decide +kernel
theorem pn_X8_rowsLeft : plainName yX8_rowsLeft.cls = true := by decide +kernel
theorem pn_X9_allRows : plainName yX9_allRows.cls = true := by decide +kernel
theorem pn_X9_clearRows : plainName yX9_clearRows.cls = true := by decide +kernel
theorem pn_X9_findParts : plainName yX9_findParts.cls = true := by decide +kernel
theorem pn_X9_forget : plainName yX9_forget.cls = true := by decide +kernel
theorem pn_X9_howManyParts : plainName yX9_howManyParts.cls = true := by decide +kernel
theorem pn_X9_init : plainName yX9_init.cls = true := by decide +kernel
theorem pn_X9_meet : plainName yX9_meet.cls = true := by decide +kernel
theorem pn_X9_meetSwapped : plainName yX9_meetSwapped.cls = true := by decide +kernel
theorem pn_X9_pass : plainName yX9_pass.cls = true := by decide +kernel
theorem pn_X9_rowsTo : plainName yX9_rowsTo.cls = true := by decide +kernel
theorem pn_X9_sizeOfFirstPart : plainName yX9_sizeOfFirstPart.cls = true := by decide +kernel
theorem pn_X9_sizeOfGreatestPart : plainName yX9_sizeOfGreatestPart.cls = true := by decide +kernel
theorem pn_X9_sizeOfPart : plainName yX9_sizeOfPart.cls = true := by decide +kernel
theorem pn_X9_swapOnce : plainName yX9_swapOnce.cls = true := by decide +kernel
theorem pn_X9_swapTimes : plainName yX9_swapTimes.cls = true := by decide +kernel
theorem pn_X9_uneven : plainName yX9_uneven.cls = true := by decide +kernel
theorem ydS_J6_bitCount_0f7a4 : yJ6_bitCount_0f7a4.cls ≠ "java/lang/invoke/MethodHandle" ∧ yJ6_bitCount_0f7a4.cls ≠ "java/lang/invoke/VarHandle" ∧ (parseMethodDescriptor yJ6_bitCount_0f7a4.desc).map (fun d => d.parameters.length) = some 1 := by decide +kernel
theorem ydS_J7_fill_53178 : yJ7_fill_53178.cls ≠ "java/lang/invoke/MethodHandle" ∧ yJ7_fill_53178.cls ≠ "java/lang/invoke/VarHandle" ∧ (parseMethodDescriptor yJ7_fill_53178.desc).map (fun d => d.parameters.length) = some 2 := by decide +kernel
theorem ydS_J7_fill_d0a16 : yJ7_fill_d0a16.cls ≠ "java/lang/invoke/MethodHandle" ∧ yJ7_fill_d0a16.cls ≠ "java/lang/invoke/VarHandle" ∧ (parseMethodDescriptor yJ7_fill_d0a16.desc).map (fun d => d.parameters.length) = some 2 := by decide +kernel
theorem ydS_J7_fill_fda19 : yJ7_fill_fda19.cls ≠ "java/lang/invoke/MethodHandle" ∧ yJ7_fill_fda19.cls ≠ "java/lang/invoke/VarHandle" ∧ (parseMethodDescriptor yJ7_fill_fda19.desc).map (fun d => d.parameters.length) = some 4 := by decide +kernel
theorem ydS_J7_rangeCheck_23922 : yJ7_rangeCheck_23922.cls ≠ "java/lang/invoke/MethodHandle" ∧ yJ7_rangeCheck_23922.cls ≠ "java/lang/invoke/VarHandle" ∧ (parseMethodDescriptor yJ7_rangeCheck_23922.desc).map (fun d => d.parameters.length) = some 3 := by decide +kernel
theorem ydS_X0_init : yX0_init.cls ≠ "java/lang/invoke/MethodHandle" ∧ yX0_init.cls ≠ "java/lang/invoke/VarHandle" ∧ (parseMethodDescriptor yX0_init.desc).map (fun d => d.parameters.length) = some 1 := by decide +kernel
theorem ydS_X10_init : yX10_init.cls ≠ "java/lang/invoke/MethodHandle" ∧ yX10_init.cls ≠ "java/lang/invoke/VarHandle" ∧ (parseMethodDescriptor yX10_init.desc).map (fun d => d.parameters.length) = some 1 := by decide +kernel
theorem ydS_X11_bitsOf : yX11_bitsOf.cls ≠ "java/lang/invoke/MethodHandle" ∧ yX11_bitsOf.cls ≠ "java/lang/invoke/VarHandle" ∧ (parseMethodDescriptor yX11_bitsOf.desc).map (fun d => d.parameters.length) = some 2 := by decide +kernel
theorem ydS_X11_isWay : yX11_isWay.cls ≠ "java/lang/invoke/MethodHandle" ∧ yX11_isWay.cls ≠ "java/lang/invoke/VarHandle" ∧ (parseMethodDescriptor yX11_isWay.desc).map (fun d => d.parameters.length) = some 1 := by decide +kernel
theorem ydS_X11_readTurns : yX11_readTurns.cls ≠ "java/lang/invoke/MethodHandle" ∧ yX11_readTurns.cls ≠ "java/lang/invoke/VarHandle" ∧ (parseMethodDescriptor yX11_readTurns.desc).map (fun d => d.parameters.length) = some 3 := by decide +kernel
theorem ydS_X12_isIn : yX12_isIn.cls ≠ "java/lang/invoke/MethodHandle" ∧ yX12_isIn.cls ≠ "java/lang/invoke/VarHandle" ∧ (parseMethodDescriptor yX12_isIn.desc).map (fun d => d.parameters.length) = some 3 := by decide +kernel
theorem ydS_X12_isOnce : yX12_isOnce.cls ≠ "java/lang/invoke/MethodHandle" ∧ yX12_isOnce.cls ≠ "java/lang/invoke/VarHandle" ∧ (parseMethodDescriptor yX12_isOnce.desc).map (fun d => d.parameters.length) = some 2 := by decide +kernel
theorem ydS_X12_isWay : yX12_isWay.cls ≠ "java/lang/invoke/MethodHandle" ∧ yX12_isWay.cls ≠ "java/lang/invoke/VarHandle" ∧ (parseMethodDescriptor yX12_isWay.desc).map (fun d => d.parameters.length) = some 1 := by decide +kernel
theorem ydS_X12_many : yX12_many.cls ≠ "java/lang/invoke/MethodHandle" ∧ yX12_many.cls ≠ "java/lang/invoke/VarHandle" ∧ (parseMethodDescriptor yX12_many.desc).map (fun d => d.parameters.length) = some 1 := by decide +kernel
theorem ydS_X1_init : yX1_init.cls ≠ "java/lang/invoke/MethodHandle" ∧ yX1_init.cls ≠ "java/lang/invoke/VarHandle" ∧ (parseMethodDescriptor yX1_init.desc).map (fun d => d.parameters.length) = some 0 := by decide +kernel
theorem ydS_X2_addUp : yX2_addUp.cls ≠ "java/lang/invoke/MethodHandle" ∧ yX2_addUp.cls ≠ "java/lang/invoke/VarHandle" ∧ (parseMethodDescriptor yX2_addUp.desc).map (fun d => d.parameters.length) = some 2 := by decide +kernel
theorem ydS_X2_init : yX2_init.cls ≠ "java/lang/invoke/MethodHandle" ∧ yX2_init.cls ≠ "java/lang/invoke/VarHandle" ∧ (parseMethodDescriptor yX2_init.desc).map (fun d => d.parameters.length) = some 2 := by decide +kernel
theorem ydS_X3_find : yX3_find.cls ≠ "java/lang/invoke/MethodHandle" ∧ yX3_find.cls ≠ "java/lang/invoke/VarHandle" ∧ (parseMethodDescriptor yX3_find.desc).map (fun d => d.parameters.length) = some 3 := by decide +kernel
theorem ydS_X3_init : yX3_init.cls ≠ "java/lang/invoke/MethodHandle" ∧ yX3_init.cls ≠ "java/lang/invoke/VarHandle" ∧ (parseMethodDescriptor yX3_init.desc).map (fun d => d.parameters.length) = some 0 := by decide +kernel
theorem ydS_X4_init : yX4_init.cls ≠ "java/lang/invoke/MethodHandle" ∧ yX4_init.cls ≠ "java/lang/invoke/VarHandle" ∧ (parseMethodDescriptor yX4_init.desc).map (fun d => d.parameters.length) = some 0 := by decide +kernel
theorem ydS_X4_only : yX4_only.cls ≠ "java/lang/invoke/MethodHandle" ∧ yX4_only.cls ≠ "java/lang/invoke/VarHandle" ∧ (parseMethodDescriptor yX4_only.desc).map (fun d => d.parameters.length) = some 1 := by decide +kernel
theorem ydS_X4_readRow : yX4_readRow.cls ≠ "java/lang/invoke/MethodHandle" ∧ yX4_readRow.cls ≠ "java/lang/invoke/VarHandle" ∧ (parseMethodDescriptor yX4_readRow.desc).map (fun d => d.parameters.length) = some 3 := by decide +kernel
theorem ydS_X5_init : yX5_init.cls ≠ "java/lang/invoke/MethodHandle" ∧ yX5_init.cls ≠ "java/lang/invoke/VarHandle" ∧ (parseMethodDescriptor yX5_init.desc).map (fun d => d.parameters.length) = some 1 := by decide +kernel
