/-- the links within the nest -/
def jw_nf : List (String × Nat × String × String × String × String) := [("BallPots$Reckoner", 59, "BallPots$Plan", "groups", "I", "BallPots"), ("BallPots$Draws", 81, "BallPots$Plan", "groups", "I", "BallPots"), ("BallPots", 133, "BallPots$Plan", "groups", "I", "BallPots"), ("BallPots$BarTable", 81, "BallPots$Plan", "groups", "I", "BallPots"), ("BallPots$Stage", 77, "BallPots$Plan", "groups", "I", "BallPots"), ("BallPots$Reader", 112, "BallPots$Plan", "groups", "I", "BallPots"), ("BallPots$Draws", 42, "BallPots$Plan", "pots", "I", "BallPots"), ("BallPots$Tree", 37, "BallPots$Plan", "pots", "I", "BallPots"), ("BallPots$Reckoner", 104, "BallPots$Plan", "pots", "I", "BallPots"), ("BallPots$BarTable", 75, "BallPots$Plan", "pots", "I", "BallPots"), ("BallPots$Swaps", 91, "BallPots$Plan", "pots", "I", "BallPots"), ("BallPots$Reader", 115, "BallPots$Plan", "pots", "I", "BallPots"), ("BallPots$Stage", 88, "BallPots$Plan", "pots", "I", "BallPots"), ("BallPots", 208, "BallPots$Plan", "pots", "I", "BallPots"), ("BallPots$BarTable", 101, "BallPots$Plan", "teams", "I", "BallPots"), ("BallPots$Stage", 66, "BallPots$Plan", "teams", "I", "BallPots"), ("BallPots$Reader", 118, "BallPots$Plan", "teams", "I", "BallPots"), ("BallPots", 202, "BallPots$Plan", "teams", "I", "BallPots"), ("BallPots$Reader", 132, "BallPots$Plan", "marks", "I", "BallPots"), ("BallPots", 465, "BallPots$Plan", "marks", "I", "BallPots"), ("BallPots$BarTable", 35, "BallPots$Plan", "bars", "I", "BallPots"), ("BallPots$Draws", 58, "BallPots$Plan", "bars", "I", "BallPots"), ("BallPots", 179, "BallPots$Plan", "bars", "I", "BallPots"), ("BallPots$Reader", 148, "BallPots$Plan", "bars", "I", "BallPots"), ("BallPots$Reader", 145, "BallPots$Plan", "marksOf", "[I", "BallPots"), ("BallPots", 462, "BallPots$Plan", "marksOf", "[I", "BallPots"), ("BallPots$Draws", 61, "BallPots$Plan", "barTeams", "[I", "BallPots"), ("BallPots$Draws", 68, "BallPots$Plan", "barRooms", "[I", "BallPots"), ("BallPots", 128, "BallPots$Reader", "plan", "LBallPots$Plan;", "BallPots"), ("BallPots", 125, "BallPots$Reader", "fault", "I", "BallPots"), ("BallPots", 160, "BallPots$Reader", "place", "I", "BallPots"), ("BallPots$Spread", 45, "BallPots$Ranks", "groups", "I", "BallPots"), ("BallPots$Draws", 47, "BallPots$Ranks", "many", "I", "BallPots"), ("BallPots$Tree", 47, "BallPots$Ranks", "many", "I", "BallPots"), ("BallPots$Spread", 54, "BallPots$Ranks", "many", "I", "BallPots"), ("BallPots$Reckoner", 152, "BallPots$Ranks", "many", "I", "BallPots"), ("BallPots$Stage", 97, "BallPots$Ranks", "many", "I", "BallPots"), ("BallPots", 404, "BallPots$Ranks", "many", "I", "BallPots"), ("BallPots$Reckoner", 51, "BallPots$Ranks", "everyRank", "I", "BallPots"), ("BallPots$Stage", 80, "BallPots$Ranks", "everyRank", "I", "BallPots"), ("BallPots$Swaps", 102, "BallPots$Ranks", "swapsAPot", "I", "BallPots"), ("BallPots$BarTable", 84, "BallPots$Ranks", "placeIn", "[I", "BallPots"), ("BallPots$Reckoner", 161, "BallPots$Ranks", "placeIn", "[I", "BallPots"), ("BallPots$Spread", 100, "BallPots$Ranks", "having", "[I", "BallPots"), ("BallPots$Stage", 85, "BallPots$Ranks", "having", "[I", "BallPots"), ("BallPots$Swaps", 107, "BallPots$Ranks", "swapped", "[I", "BallPots"), ("BallPots$BarTable", 19, "BallPots$Draws", "plan", "LBallPots$Plan;", "BallPots"), ("BallPots$Reckoner", 19, "BallPots$Draws", "plan", "LBallPots$Plan;", "BallPots"), ("BallPots$Tree", 31, "BallPots$Draws", "plan", "LBallPots$Plan;", "BallPots"), ("BallPots$Swaps", 87, "BallPots$Draws", "plan", "LBallPots$Plan;", "BallPots"), ("BallPots$BarTable", 26, "BallPots$Draws", "ranks", "LBallPots$Ranks;", "BallPots"), ("BallPots$Reckoner", 26, "BallPots$Draws", "ranks", "LBallPots$Ranks;", "BallPots"), ("BallPots$Swaps", 26, "BallPots$Draws", "ranks", "LBallPots$Ranks;", "BallPots"), ("BallPots$Tree", 43, "BallPots$Draws", "ranks", "LBallPots$Ranks;", "BallPots"), ("BallPots$BarTable", 51, "BallPots$Draws", "total", "I", "BallPots"), ("BallPots$Tree", 73, "BallPots$Draws", "total", "I", "BallPots"), ("BallPots$Swaps", 49, "BallPots$Draws", "total", "I", "BallPots"), ("BallPots", 205, "BallPots$Draws", "total", "I", "BallPots"), ("BallPots$Swaps", 64, "BallPots$Draws", "lawfulOnes", "I", "BallPots"), ("BallPots", 169, "BallPots$Draws", "lawfulOnes", "I", "BallPots"), ("BallPots$Tree", 63, "BallPots$Draws", "step", "[I", "BallPots"), ("BallPots$Swaps", 96, "BallPots$Draws", "step", "[I", "BallPots"), ("BallPots", 401, "BallPots$Draws", "step", "[I", "BallPots"), ("BallPots$BarTable", 54, "BallPots$Draws", "broken", "[I", "BallPots"), ("BallPots$Tree", 70, "BallPots$Draws", "broken", "[I", "BallPots"), ("BallPots$Swaps", 110, "BallPots$Draws", "broken", "[I", "BallPots"), ("BallPots", 199, "BallPots$Draws", "broken", "[I", "BallPots"), ("BallPots$Swaps", 67, "BallPots$Draws", "lawfulCodes", "[I", "BallPots"), ("BallPots", 189, "BallPots$Draws", "lawfulCodes", "[I", "BallPots"), ("BallPots$BarTable", 98, "BallPots$Draws", "within", "[I", "BallPots"), ("BallPots", 176, "BallPots$Draws", "within", "[I", "BallPots"), ("BallPots", 211, "BallPots$Stage", "potAt", "[I", "BallPots"), ("BallPots$Reckoner", 71, "BallPots$Stage", "groupAt", "[I", "BallPots"), ("BallPots", 221, "BallPots$Stage", "groupAt", "[I", "BallPots"), ("BallPots", 227, "BallPots$Stage", "groupOf", "[I", "BallPots"), ("BallPots", 273, "BallPots$Stage", "out", "I", "BallPots"), ("BallPots", 282, "BallPots$Stage", "allowed", "[I", "BallPots"), ("BallPots$Reckoner", 158, "BallPots$Tree", "potAt", "[I", "BallPots"), ("BallPots", 145, "BallPots$Tree", "fresh", "Z", "BallPots"), ("BallPots$Reckoner", 143, "BallPots$Spread", "rows", "[J", "BallPots"), ("BallPots$Reckoner", 170, "BallPots$Spread", "tables", "[J", "BallPots"), ("BallPots$Reckoner", 167, "BallPots$Chances", "pairs", "[J", "BallPots"), ("BallPots$Reckoner", 164, "BallPots$Chances", "places", "[J", "BallPots"), ("BallPots$Reckoner", 155, "BallPots$Chances", "rows", "J", "BallPots"), ("BallPots", 311, "BallPots$Chances", "rows", "J", "BallPots"), ("BallPots$Reckoner", 115, "BallPots$Chances", "fresh", "Z", "BallPots"), ("BallPots", 149, "BallPots$Chances", "fresh", "Z", "BallPots"), ("BallPots", 150, "BallPots$BarTable", "fresh", "Z", "BallPots"), ("BallPots$Stage", 35, "BallPots", "IN_TURN", "[I", "BallPots"), ("BallPots$Spread", 80, "BallPots", "SKIP_ROWS", "[I", "BallPots"), ("BallPots$Spread", 87, "BallPots", "FIELD_ROWS", "[I", "BallPots"), ("BallPots$Spread", 93, "BallPots", "SHARES", "[I", "BallPots")]
def jw_nm : List (String × Nat × MethodName × String) := [("BallPots", 31, ⟨"BallPots$Ranks", "<init>", "()V"⟩, "BallPots"), ("BallPots", 85, ⟨"BallPots$Chances", "<init>", "()V"⟩, "BallPots"), ("BallPots", 182, ⟨"BallPots$Draws", "fewest", "([II)I"⟩, "BallPots")]
theorem nf_X0_19 : ("BallPots$BarTable", 19, "BallPots$Draws", "plan", "LBallPots$Plan;", "BallPots") ∈ jw_nf := List.mem_of_getElem? (i := 46) rfl
theorem nf_X6_19 : ("BallPots$Reckoner", 19, "BallPots$Draws", "plan", "LBallPots$Plan;", "BallPots") ∈ jw_nf := List.mem_of_getElem? (i := 47) rfl
theorem nf_X0_26 : ("BallPots$BarTable", 26, "BallPots$Draws", "ranks", "LBallPots$Ranks;", "BallPots") ∈ jw_nf := List.mem_of_getElem? (i := 50) rfl
theorem nf_X6_26 : ("BallPots$Reckoner", 26, "BallPots$Draws", "ranks", "LBallPots$Ranks;", "BallPots") ∈ jw_nf := List.mem_of_getElem? (i := 51) rfl
theorem nf_X9_26 : ("BallPots$Swaps", 26, "BallPots$Draws", "ranks", "LBallPots$Ranks;", "BallPots") ∈ jw_nf := List.mem_of_getElem? (i := 52) rfl
set_option maxRecDepth 20000 in
theorem fd_X3 : ∀ j, j < 11 → defaultValue (tyX3 j) = vp_V [.int 0, .int 0, .int 0, .int 0, .int 0, .null, .null, .null, .null, .null, .int 0] j := by decide +kernel
set_option maxRecDepth 20000 in
theorem fd_X7 : ∀ j, j < 6 → defaultValue (tyX7 j) = vp_V [.null, .int 0, .null, .null, .null, .null] j := by decide +kernel
theorem iw_X0_init__X0 : ∀ w ∈ wsX00, w ∈ wsX0_init := fun _ h => List.mem_cons_of_mem _ (List.mem_append_left _ (List.mem_append_right _ h))
theorem iw_X0_init__X2 : ∀ w ∈ wsX20, w ∈ wsX0_init := fun _ h => List.mem_cons_of_mem _ (List.mem_append_right _ h)
theorem iw_X10_init__X10 : ∀ w ∈ wsX100, w ∈ wsX10_init := fun _ h => List.mem_cons_of_mem _ (List.mem_append_right _ h)
theorem iw_X1_init__X1 : ∀ w ∈ wsX10, w ∈ wsX1_init := fun _ h => List.mem_cons_of_mem _ (List.mem_append_right _ h)
theorem iw_X2_init__X2 : ∀ w ∈ wsX20, w ∈ wsX2_init := fun _ h => List.mem_cons_of_mem _ (List.mem_append_right _ h)
theorem iw_X3_init__X3 : ∀ w ∈ wsX30, w ∈ wsX3_init := fun _ h => List.mem_cons_of_mem _ (List.mem_append_right _ h)
theorem iw_X4_init__X4 : ∀ w ∈ wsX40, w ∈ wsX4_init := fun _ h => List.mem_cons_of_mem _ (List.mem_append_right _ h)
theorem iw_X5_init__X3 : ∀ w ∈ wsX30, w ∈ wsX5_init := fun _ h => List.mem_cons_of_mem _ (List.mem_append_left _ (List.mem_append_right _ h))
theorem iw_X5_init__X5 : ∀ w ∈ wsX50, w ∈ wsX5_init := fun _ h => List.mem_cons_of_mem _ (List.mem_append_right _ h)
theorem iw_X6_init__X2 : ∀ w ∈ wsX20, w ∈ wsX6_init := fun _ h => List.mem_cons_of_mem _ (List.mem_append_left _ (List.mem_append_right _ h))
theorem iw_X6_init__X6 : ∀ w ∈ wsX60, w ∈ wsX6_init := fun _ h => List.mem_cons_of_mem _ (List.mem_append_left _ (List.mem_append_left _ (List.mem_append_right _ h)))
theorem iw_X6_init__X7 : ∀ w ∈ wsX70, w ∈ wsX6_init := fun _ h => List.mem_cons_of_mem _ (List.mem_append_right _ h)
theorem iw_X7_init__X7 : ∀ w ∈ wsX70, w ∈ wsX7_init := fun _ h => List.mem_cons_of_mem _ (List.mem_append_right _ h)
theorem iw_X8_init__X8 : ∀ w ∈ wsX80, w ∈ wsX8_init := fun _ h => List.mem_cons_of_mem _ (List.mem_append_right _ h)
theorem iw_X9_init__X2 : ∀ w ∈ wsX20, w ∈ wsX9_init := fun _ h => List.mem_cons_of_mem _ (List.mem_append_right _ h)
theorem iw_X9_init__X9 : ∀ w ∈ wsX90, w ∈ wsX9_init := fun _ h => List.mem_cons_of_mem _ (List.mem_append_left _ (List.mem_append_right _ h))
theorem mw_X0_init__1 : (.methodLink RX0 3 objectInit : Cond) ∈ wsX0_init := List.mem_of_getElem? (i := 1) rfl
theorem mw_X0_init__2 : (.instanceMethod objectInit : Cond) ∈ wsX0_init := List.mem_of_getElem? (i := 2) rfl
theorem mw_X0_init__3 : (.code objectInit ⟨#[0xb1]⟩ 1 none : Cond) ∈ wsX0_init := List.mem_of_getElem? (i := 3) rfl
theorem mw_X0_init__4 : (.arrayClass .int : Cond) ∈ wsX0_init := List.mem_of_getElem? (i := 4) rfl
theorem mw_X0_init__5 : (.fieldLink RX0 11 "BallPots$BarTable" "pairs" "[I" : Cond) ∈ wsX0_init := List.mem_of_getElem? (i := 5) rfl
theorem mw_X0_init__6 : (.fieldLink RX0 15 "BallPots$BarTable" "draws" "LBallPots$Draws;" : Cond) ∈ wsX0_init := List.mem_of_getElem? (i := 6) rfl
theorem mw_X0_init__7 : (.fieldLink RX0 25 "BallPots$BarTable" "plan" "LBallPots$Plan;" : Cond) ∈ wsX0_init := List.mem_of_getElem? (i := 7) rfl
theorem mw_X0_init__8 : (.fieldLink RX0 30 "BallPots$BarTable" "ranks" "LBallPots$Ranks;" : Cond) ∈ wsX0_init := List.mem_of_getElem? (i := 8) rfl
theorem mw_X10_init__1 : (.methodLink RX10 3 objectInit : Cond) ∈ wsX10_init := List.mem_of_getElem? (i := 1) rfl
theorem mw_X10_init__2 : (.instanceMethod objectInit : Cond) ∈ wsX10_init := List.mem_of_getElem? (i := 2) rfl
theorem mw_X10_init__3 : (.code objectInit ⟨#[0xb1]⟩ 1 none : Cond) ∈ wsX10_init := List.mem_of_getElem? (i := 3) rfl
theorem mw_X10_init__4 : (.arrayClass .int : Cond) ∈ wsX10_init := List.mem_of_getElem? (i := 4) rfl
theorem mw_X10_init__5 : (.fieldLink RX10 11 "BallPots$Tree" "sets" "[I" : Cond) ∈ wsX10_init := List.mem_of_getElem? (i := 5) rfl
theorem mw_X10_init__6 : (.fieldLink RX10 15 "BallPots$Tree" "from" "[I" : Cond) ∈ wsX10_init := List.mem_of_getElem? (i := 6) rfl
theorem mw_X10_init__7 : (.fieldLink RX10 18 "BallPots$Tree" "potAt" "[I" : Cond) ∈ wsX10_init := List.mem_of_getElem? (i := 7) rfl
theorem mw_X10_init__8 : (.fieldLink RX10 21 "BallPots$Tree" "draws" "LBallPots$Draws;" : Cond) ∈ wsX10_init := List.mem_of_getElem? (i := 8) rfl
theorem mw_X1_init__1 : (.methodLink RX1 3 objectInit : Cond) ∈ wsX1_init := List.mem_of_getElem? (i := 1) rfl
theorem mw_X1_init__2 : (.instanceMethod objectInit : Cond) ∈ wsX1_init := List.mem_of_getElem? (i := 2) rfl
theorem mw_X1_init__3 : (.code objectInit ⟨#[0xb1]⟩ 1 none : Cond) ∈ wsX1_init := List.mem_of_getElem? (i := 3) rfl
theorem mw_X1_init__4 : (.arrayClass .long : Cond) ∈ wsX1_init := List.mem_of_getElem? (i := 4) rfl
theorem mw_X1_init__5 : (.fieldLink RX1 9 "BallPots$Chances" "pairs" "[J" : Cond) ∈ wsX1_init := List.mem_of_getElem? (i := 5) rfl
theorem mw_X1_init__6 : (.fieldLink RX1 15 "BallPots$Chances" "places" "[J" : Cond) ∈ wsX1_init := List.mem_of_getElem? (i := 6) rfl
theorem mw_X2_init__1 : (.methodLink RX2 3 objectInit : Cond) ∈ wsX2_init := List.mem_of_getElem? (i := 1) rfl
theorem mw_X2_init__10 : (.fieldLink RX2 27 "BallPots$Draws" "held" "[I" : Cond) ∈ wsX2_init := List.mem_of_getElem? (i := 10) rfl
theorem mw_X2_init__11 : (.fieldLink RX2 30 "BallPots$Draws" "plan" "LBallPots$Plan;" : Cond) ∈ wsX2_init := List.mem_of_getElem? (i := 11) rfl
theorem mw_X2_init__12 : (.fieldLink RX2 34 "BallPots$Draws" "ranks" "LBallPots$Ranks;" : Cond) ∈ wsX2_init := List.mem_of_getElem? (i := 12) rfl
theorem mw_X2_init__2 : (.instanceMethod objectInit : Cond) ∈ wsX2_init := List.mem_of_getElem? (i := 2) rfl
theorem mw_X2_init__3 : (.code objectInit ⟨#[0xb1]⟩ 1 none : Cond) ∈ wsX2_init := List.mem_of_getElem? (i := 3) rfl
theorem mw_X2_init__4 : (.arrayClass .int : Cond) ∈ wsX2_init := List.mem_of_getElem? (i := 4) rfl
theorem mw_X2_init__5 : (.fieldLink RX2 9 "BallPots$Draws" "step" "[I" : Cond) ∈ wsX2_init := List.mem_of_getElem? (i := 5) rfl
theorem mw_X2_init__6 : (.fieldLink RX2 15 "BallPots$Draws" "broken" "[I" : Cond) ∈ wsX2_init := List.mem_of_getElem? (i := 6) rfl
theorem mw_X2_init__7 : (.fieldLink RX2 18 "BallPots$Draws" "lawfulCodes" "[I" : Cond) ∈ wsX2_init := List.mem_of_getElem? (i := 7) rfl
theorem mw_X2_init__8 : (.fieldLink RX2 21 "BallPots$Draws" "within" "[I" : Cond) ∈ wsX2_init := List.mem_of_getElem? (i := 8) rfl
theorem mw_X2_init__9 : (.fieldLink RX2 24 "BallPots$Draws" "withinSome" "[I" : Cond) ∈ wsX2_init := List.mem_of_getElem? (i := 9) rfl
theorem mw_X3_init__1 : (.methodLink RX3 3 objectInit : Cond) ∈ wsX3_init := List.mem_of_getElem? (i := 1) rfl
theorem mw_X3_init__10 : (.fieldLink RX3 27 "BallPots$Plan" "groups" "I" : Cond) ∈ wsX3_init := List.mem_of_getElem? (i := 10) rfl
theorem mw_X3_init__2 : (.instanceMethod objectInit : Cond) ∈ wsX3_init := List.mem_of_getElem? (i := 2) rfl
theorem mw_X3_init__3 : (.code objectInit ⟨#[0xb1]⟩ 1 none : Cond) ∈ wsX3_init := List.mem_of_getElem? (i := 3) rfl
theorem mw_X3_init__4 : (.arrayClass .int : Cond) ∈ wsX3_init := List.mem_of_getElem? (i := 4) rfl
theorem mw_X3_init__5 : (.fieldLink RX3 9 "BallPots$Plan" "teamNames" "[I" : Cond) ∈ wsX3_init := List.mem_of_getElem? (i := 5) rfl
theorem mw_X3_init__6 : (.fieldLink RX3 15 "BallPots$Plan" "marksOf" "[I" : Cond) ∈ wsX3_init := List.mem_of_getElem? (i := 6) rfl
theorem mw_X3_init__7 : (.fieldLink RX3 18 "BallPots$Plan" "markNames" "[I" : Cond) ∈ wsX3_init := List.mem_of_getElem? (i := 7) rfl
theorem mw_X3_init__8 : (.fieldLink RX3 21 "BallPots$Plan" "barTeams" "[I" : Cond) ∈ wsX3_init := List.mem_of_getElem? (i := 8) rfl
theorem mw_X3_init__9 : (.fieldLink RX3 24 "BallPots$Plan" "barRooms" "[I" : Cond) ∈ wsX3_init := List.mem_of_getElem? (i := 9) rfl
theorem mw_X4_init__1 : (.methodLink RX4 3 objectInit : Cond) ∈ wsX4_init := List.mem_of_getElem? (i := 1) rfl
theorem mw_X4_init__2 : (.instanceMethod objectInit : Cond) ∈ wsX4_init := List.mem_of_getElem? (i := 2) rfl
theorem mw_X4_init__3 : (.code objectInit ⟨#[0xb1]⟩ 1 none : Cond) ∈ wsX4_init := List.mem_of_getElem? (i := 3) rfl
theorem mw_X4_init__4 : (.arrayClass .int : Cond) ∈ wsX4_init := List.mem_of_getElem? (i := 4) rfl
theorem mw_X4_init__5 : (.fieldLink RX4 9 "BallPots$Ranks" "groupOf" "[I" : Cond) ∈ wsX4_init := List.mem_of_getElem? (i := 5) rfl
theorem mw_X4_init__6 : (.fieldLink RX4 15 "BallPots$Ranks" "placeIn" "[I" : Cond) ∈ wsX4_init := List.mem_of_getElem? (i := 6) rfl
theorem mw_X4_init__7 : (.fieldLink RX4 18 "BallPots$Ranks" "having" "[I" : Cond) ∈ wsX4_init := List.mem_of_getElem? (i := 7) rfl
theorem mw_X4_init__8 : (.fieldLink RX4 21 "BallPots$Ranks" "swapped" "[I" : Cond) ∈ wsX4_init := List.mem_of_getElem? (i := 8) rfl
theorem mw_X4_init__9 : (.fieldLink RX4 24 "BallPots$Ranks" "row" "[I" : Cond) ∈ wsX4_init := List.mem_of_getElem? (i := 9) rfl
theorem mw_X5_init__1 : (.methodLink RX5 3 objectInit : Cond) ∈ wsX5_init := List.mem_of_getElem? (i := 1) rfl
theorem mw_X5_init__10 : (.methodLink RX5 11 yX3_init : Cond) ∈ wsX5_init := List.mem_of_getElem? (i := 10) rfl
theorem mw_X5_init__11 : (.instanceMethod yX3_init : Cond) ∈ wsX5_init := List.mem_of_getElem? (i := 11) rfl
theorem mw_X5_init__2 : (.instanceMethod objectInit : Cond) ∈ wsX5_init := List.mem_of_getElem? (i := 2) rfl
theorem mw_X5_init__3 : (.code objectInit ⟨#[0xb1]⟩ 1 none : Cond) ∈ wsX5_init := List.mem_of_getElem? (i := 3) rfl
theorem mw_X5_init__4 : (.classLink RX5 9 RX3 : Cond) ∈ wsX5_init := List.mem_of_getElem? (i := 4) rfl
theorem mw_X5_init__5 : (.instantiable RX3 11 : Cond) ∈ wsX5_init := List.mem_of_getElem? (i := 5) rfl
theorem mw_X5_init__6 : (.initialized RX3 : Cond) ∈ wsX5_init := List.mem_of_getElem? (i := 6) rfl
theorem mw_X5_init__7 : (.fieldLink RX5 12 "BallPots$Reader" "plan" "LBallPots$Plan;" : Cond) ∈ wsX5_init := List.mem_of_getElem? (i := 7) rfl
theorem mw_X5_init__8 : (.fieldLink RX5 18 "BallPots$Reader" "place" "I" : Cond) ∈ wsX5_init := List.mem_of_getElem? (i := 8) rfl
theorem mw_X5_init__9 : (.fieldLink RX5 22 "BallPots$Reader" "signs" "[I" : Cond) ∈ wsX5_init := List.mem_of_getElem? (i := 9) rfl
theorem mw_X6_init__1 : (.methodLink RX6 3 objectInit : Cond) ∈ wsX6_init := List.mem_of_getElem? (i := 1) rfl
theorem mw_X6_init__10 : (.fieldLink RX6 31 "BallPots$Reckoner" "stage" "LBallPots$Stage;" : Cond) ∈ wsX6_init := List.mem_of_getElem? (i := 10) rfl
theorem mw_X6_init__11 : (.classLink RX6 35 RX7 : Cond) ∈ wsX6_init := List.mem_of_getElem? (i := 11) rfl
theorem mw_X6_init__12 : (.instantiable RX7 6 : Cond) ∈ wsX6_init := List.mem_of_getElem? (i := 12) rfl
theorem mw_X6_init__13 : (.initialized RX7 : Cond) ∈ wsX6_init := List.mem_of_getElem? (i := 13) rfl
theorem mw_X6_init__14 : (.fieldLink RX6 40 "BallPots$Reckoner" "spread" "LBallPots$Spread;" : Cond) ∈ wsX6_init := List.mem_of_getElem? (i := 14) rfl
theorem mw_X6_init__15 : (.methodLink RX6 37 yX7_init : Cond) ∈ wsX6_init := List.mem_of_getElem? (i := 15) rfl
theorem mw_X6_init__16 : (.instanceMethod yX7_init : Cond) ∈ wsX6_init := List.mem_of_getElem? (i := 16) rfl
theorem mw_X6_init__2 : (.instanceMethod objectInit : Cond) ∈ wsX6_init := List.mem_of_getElem? (i := 2) rfl
theorem mw_X6_init__3 : (.code objectInit ⟨#[0xb1]⟩ 1 none : Cond) ∈ wsX6_init := List.mem_of_getElem? (i := 3) rfl
theorem mw_X6_init__4 : (.arrayClass .int : Cond) ∈ wsX6_init := List.mem_of_getElem? (i := 4) rfl
theorem mw_X6_init__5 : (.fieldLink RX6 9 "BallPots$Reckoner" "rankAt" "[I" : Cond) ∈ wsX6_init := List.mem_of_getElem? (i := 5) rfl
theorem mw_X6_init__6 : (.arrayClass .long : Cond) ∈ wsX6_init := List.mem_of_getElem? (i := 6) rfl
theorem mw_X6_init__7 : (.fieldLink RX6 15 "BallPots$Reckoner" "rowsAt" "[J" : Cond) ∈ wsX6_init := List.mem_of_getElem? (i := 7) rfl
theorem mw_X6_init__8 : (.fieldLink RX6 25 "BallPots$Reckoner" "plan" "LBallPots$Plan;" : Cond) ∈ wsX6_init := List.mem_of_getElem? (i := 8) rfl
theorem mw_X6_init__9 : (.fieldLink RX6 30 "BallPots$Reckoner" "ranks" "LBallPots$Ranks;" : Cond) ∈ wsX6_init := List.mem_of_getElem? (i := 9) rfl
theorem mw_X7_init__1 : (.methodLink RX7 3 objectInit : Cond) ∈ wsX7_init := List.mem_of_getElem? (i := 1) rfl
theorem mw_X7_init__10 : (.fieldLink RX7 25 "BallPots$Spread" "ranks" "LBallPots$Ranks;" : Cond) ∈ wsX7_init := List.mem_of_getElem? (i := 10) rfl
theorem mw_X7_init__2 : (.instanceMethod objectInit : Cond) ∈ wsX7_init := List.mem_of_getElem? (i := 2) rfl
theorem mw_X7_init__3 : (.code objectInit ⟨#[0xb1]⟩ 1 none : Cond) ∈ wsX7_init := List.mem_of_getElem? (i := 3) rfl
theorem mw_X7_init__4 : (.arrayClass .int : Cond) ∈ wsX7_init := List.mem_of_getElem? (i := 4) rfl
theorem mw_X7_init__5 : (.fieldLink RX7 9 "BallPots$Spread" "groupAt" "[I" : Cond) ∈ wsX7_init := List.mem_of_getElem? (i := 5) rfl
theorem mw_X7_init__6 : (.arrayClass .long : Cond) ∈ wsX7_init := List.mem_of_getElem? (i := 6) rfl
theorem mw_X7_init__7 : (.fieldLink RX7 15 "BallPots$Spread" "rows" "[J" : Cond) ∈ wsX7_init := List.mem_of_getElem? (i := 7) rfl
theorem mw_X7_init__8 : (.fieldLink RX7 19 "BallPots$Spread" "keys" "[I" : Cond) ∈ wsX7_init := List.mem_of_getElem? (i := 8) rfl
theorem mw_X7_init__9 : (.fieldLink RX7 22 "BallPots$Spread" "tables" "[J" : Cond) ∈ wsX7_init := List.mem_of_getElem? (i := 9) rfl
theorem mw_X8_init__1 : (.methodLink RX8 3 objectInit : Cond) ∈ wsX8_init := List.mem_of_getElem? (i := 1) rfl
theorem mw_X8_init__10 : (.fieldLink RX8 27 "BallPots$Stage" "plan" "LBallPots$Plan;" : Cond) ∈ wsX8_init := List.mem_of_getElem? (i := 10) rfl
theorem mw_X8_init__11 : (.fieldLink RX8 31 "BallPots$Stage" "ranks" "LBallPots$Ranks;" : Cond) ∈ wsX8_init := List.mem_of_getElem? (i := 11) rfl
theorem mw_X8_init__2 : (.instanceMethod objectInit : Cond) ∈ wsX8_init := List.mem_of_getElem? (i := 2) rfl
theorem mw_X8_init__3 : (.code objectInit ⟨#[0xb1]⟩ 1 none : Cond) ∈ wsX8_init := List.mem_of_getElem? (i := 3) rfl
theorem mw_X8_init__4 : (.arrayClass .int : Cond) ∈ wsX8_init := List.mem_of_getElem? (i := 4) rfl
theorem mw_X8_init__5 : (.fieldLink RX8 9 "BallPots$Stage" "potAt" "[I" : Cond) ∈ wsX8_init := List.mem_of_getElem? (i := 5) rfl
theorem mw_X8_init__6 : (.fieldLink RX8 15 "BallPots$Stage" "groupAt" "[I" : Cond) ∈ wsX8_init := List.mem_of_getElem? (i := 6) rfl
theorem mw_X8_init__7 : (.fieldLink RX8 18 "BallPots$Stage" "groupOf" "[I" : Cond) ∈ wsX8_init := List.mem_of_getElem? (i := 7) rfl
theorem mw_X8_init__8 : (.fieldLink RX8 21 "BallPots$Stage" "balls" "[I" : Cond) ∈ wsX8_init := List.mem_of_getElem? (i := 8) rfl
theorem mw_X8_init__9 : (.fieldLink RX8 24 "BallPots$Stage" "allowed" "[I" : Cond) ∈ wsX8_init := List.mem_of_getElem? (i := 9) rfl
theorem mw_X9_init__1 : (.methodLink RX9 3 objectInit : Cond) ∈ wsX9_init := List.mem_of_getElem? (i := 1) rfl
theorem mw_X9_init__2 : (.instanceMethod objectInit : Cond) ∈ wsX9_init := List.mem_of_getElem? (i := 2) rfl
theorem mw_X9_init__3 : (.code objectInit ⟨#[0xb1]⟩ 1 none : Cond) ∈ wsX9_init := List.mem_of_getElem? (i := 3) rfl
theorem mw_X9_init__4 : (.arrayClass .int : Cond) ∈ wsX9_init := List.mem_of_getElem? (i := 4) rfl
theorem mw_X9_init__5 : (.fieldLink RX9 9 "BallPots$Swaps" "rows" "[I" : Cond) ∈ wsX9_init := List.mem_of_getElem? (i := 5) rfl
theorem mw_X9_init__6 : (.fieldLink RX9 15 "BallPots$Swaps" "other" "[I" : Cond) ∈ wsX9_init := List.mem_of_getElem? (i := 6) rfl
theorem mw_X9_init__7 : (.fieldLink RX9 18 "BallPots$Swaps" "done" "I" : Cond) ∈ wsX9_init := List.mem_of_getElem? (i := 7) rfl
theorem mw_X9_init__8 : (.fieldLink RX9 22 "BallPots$Swaps" "draws" "LBallPots$Draws;" : Cond) ∈ wsX9_init := List.mem_of_getElem? (i := 8) rfl
theorem mw_X9_init__9 : (.fieldLink RX9 32 "BallPots$Swaps" "ranks" "LBallPots$Ranks;" : Cond) ∈ wsX9_init := List.mem_of_getElem? (i := 9) rfl
theorem pn_J7_fill_53178 : plainName yJ7_fill_53178.cls = true := by decide +kernel
theorem pn_J7_fill_d0a16 : plainName yJ7_fill_d0a16.cls = true := by decide +kernel
theorem pn_X0_init : plainName yX0_init.cls = true := by decide +kernel
theorem pn_X10_init : plainName yX10_init.cls = true := by decide +kernel
theorem pn_X1_init : plainName yX1_init.cls = true := by decide +kernel
theorem pn_X2_init : plainName yX2_init.cls = true := by decide +kernel
theorem pn_X3_init : plainName yX3_init.cls = true := by decide +kernel
theorem pn_X4_init : plainName yX4_init.cls = true := by decide +kernel
theorem pn_X5_init : plainName yX5_init.cls = true := by decide +kernel
theorem pn_X6_init : plainName yX6_init.cls = true := by decide +kernel
theorem pn_X7_init : plainName yX7_init.cls = true := by decide +kernel
theorem pn_X8_init : plainName yX8_init.cls = true := by decide +kernel
theorem pn_X9_init : plainName yX9_init.cls = true := by decide +kernel
theorem ydS_X3_init : yX3_init.cls ≠ "java/lang/invoke/MethodHandle" ∧ yX3_init.cls ≠ "java/lang/invoke/VarHandle" ∧ (parseMethodDescriptor yX3_init.desc).map (fun d => d.parameters.length) = some 0 := by decide +kernel
theorem ydS_X7_init : yX7_init.cls ≠ "java/lang/invoke/MethodHandle" ∧ yX7_init.cls ≠ "java/lang/invoke/VarHandle" ∧ (parseMethodDescriptor yX7_init.desc).map (fun d => d.parameters.length) = some 1 := by decide +kernel
