/-- the links within the nest -/
def jw_nf : List (String × Nat × String × String × String × String) := [("BallPots$Reckoner", 59, "BallPots$Plan", "groups", "I", "BallPots"), ("BallPots$Draws", 81, "BallPots$Plan", "groups", "I", "BallPots"), ("BallPots", 133, "BallPots$Plan", "groups", "I", "BallPots"), ("BallPots$BarTable", 81, "BallPots$Plan", "groups", "I", "BallPots"), ("BallPots$Stage", 77, "BallPots$Plan", "groups", "I", "BallPots"), ("BallPots$Reader", 112, "BallPots$Plan", "groups", "I", "BallPots"), ("BallPots$Draws", 42, "BallPots$Plan", "pots", "I", "BallPots"), ("BallPots$Tree", 37, "BallPots$Plan", "pots", "I", "BallPots"), ("BallPots$Reckoner", 104, "BallPots$Plan", "pots", "I", "BallPots"), ("BallPots$BarTable", 75, "BallPots$Plan", "pots", "I", "BallPots"), ("BallPots$Swaps", 91, "BallPots$Plan", "pots", "I", "BallPots"), ("BallPots$Reader", 115, "BallPots$Plan", "pots", "I", "BallPots"), ("BallPots$Stage", 88, "BallPots$Plan", "pots", "I", "BallPots"), ("BallPots", 208, "BallPots$Plan", "pots", "I", "BallPots"), ("BallPots$BarTable", 101, "BallPots$Plan", "teams", "I", "BallPots"), ("BallPots$Stage", 66, "BallPots$Plan", "teams", "I", "BallPots"), ("BallPots$Reader", 118, "BallPots$Plan", "teams", "I", "BallPots"), ("BallPots", 202, "BallPots$Plan", "teams", "I", "BallPots"), ("BallPots$Reader", 132, "BallPots$Plan", "marks", "I", "BallPots"), ("BallPots", 465, "BallPots$Plan", "marks", "I", "BallPots"), ("BallPots$BarTable", 35, "BallPots$Plan", "bars", "I", "BallPots"), ("BallPots$Draws", 58, "BallPots$Plan", "bars", "I", "BallPots"), ("BallPots", 179, "BallPots$Plan", "bars", "I", "BallPots"), ("BallPots$Reader", 148, "BallPots$Plan", "bars", "I", "BallPots"), ("BallPots$Reader", 145, "BallPots$Plan", "marksOf", "[I", "BallPots"), ("BallPots", 462, "BallPots$Plan", "marksOf", "[I", "BallPots"), ("BallPots$Draws", 61, "BallPots$Plan", "barTeams", "[I", "BallPots"), ("BallPots$Draws", 68, "BallPots$Plan", "barRooms", "[I", "BallPots"), ("BallPots", 128, "BallPots$Reader", "plan", "LBallPots$Plan;", "BallPots"), ("BallPots", 125, "BallPots$Reader", "fault", "I", "BallPots"), ("BallPots", 160, "BallPots$Reader", "place", "I", "BallPots"), ("BallPots$Spread", 45, "BallPots$Ranks", "groups", "I", "BallPots"), ("BallPots$Draws", 47, "BallPots$Ranks", "many", "I", "BallPots"), ("BallPots$Tree", 47, "BallPots$Ranks", "many", "I", "BallPots"), ("BallPots$Spread", 54, "BallPots$Ranks", "many", "I", "BallPots"), ("BallPots$Reckoner", 152, "BallPots$Ranks", "many", "I", "BallPots"), ("BallPots$Stage", 97, "BallPots$Ranks", "many", "I", "BallPots"), ("BallPots", 404, "BallPots$Ranks", "many", "I", "BallPots"), ("BallPots$Reckoner", 51, "BallPots$Ranks", "everyRank", "I", "BallPots"), ("BallPots$Stage", 80, "BallPots$Ranks", "everyRank", "I", "BallPots"), ("BallPots$Swaps", 102, "BallPots$Ranks", "swapsAPot", "I", "BallPots"), ("BallPots$BarTable", 84, "BallPots$Ranks", "placeIn", "[I", "BallPots"), ("BallPots$Reckoner", 161, "BallPots$Ranks", "placeIn", "[I", "BallPots"), ("BallPots$Spread", 100, "BallPots$Ranks", "having", "[I", "BallPots"), ("BallPots$Stage", 85, "BallPots$Ranks", "having", "[I", "BallPots"), ("BallPots$Swaps", 107, "BallPots$Ranks", "swapped", "[I", "BallPots"), ("BallPots$BarTable", 19, "BallPots$Draws", "plan", "LBallPots$Plan;", "BallPots"), ("BallPots$Reckoner", 19, "BallPots$Draws", "plan", "LBallPots$Plan;", "BallPots"), ("BallPots$Tree", 31, "BallPots$Draws", "plan", "LBallPots$Plan;", "BallPots"), ("BallPots$Swaps", 87, "BallPots$Draws", "plan", "LBallPots$Plan;", "BallPots"), ("BallPots$BarTable", 26, "BallPots$Draws", "ranks", "LBallPots$Ranks;", "BallPots"), ("BallPots$Reckoner", 26, "BallPots$Draws", "ranks", "LBallPots$Ranks;", "BallPots"), ("BallPots$Swaps", 26, "BallPots$Draws", "ranks", "LBallPots$Ranks;", "BallPots"), ("BallPots$Tree", 43, "BallPots$Draws", "ranks", "LBallPots$Ranks;", "BallPots"), ("BallPots$BarTable", 51, "BallPots$Draws", "total", "I", "BallPots"), ("BallPots$Tree", 73, "BallPots$Draws", "total", "I", "BallPots"), ("BallPots$Swaps", 49, "BallPots$Draws", "total", "I", "BallPots"), ("BallPots", 205, "BallPots$Draws", "total", "I", "BallPots"), ("BallPots$Swaps", 64, "BallPots$Draws", "lawfulOnes", "I", "BallPots"), ("BallPots", 169, "BallPots$Draws", "lawfulOnes", "I", "BallPots"), ("BallPots$Tree", 63, "BallPots$Draws", "step", "[I", "BallPots"), ("BallPots$Swaps", 96, "BallPots$Draws", "step", "[I", "BallPots"), ("BallPots", 401, "BallPots$Draws", "step", "[I", "BallPots"), ("BallPots$BarTable", 54, "BallPots$Draws", "broken", "[I", "BallPots"), ("BallPots$Tree", 70, "BallPots$Draws", "broken", "[I", "BallPots"), ("BallPots$Swaps", 110, "BallPots$Draws", "broken", "[I", "BallPots"), ("BallPots", 199, "BallPots$Draws", "broken", "[I", "BallPots"), ("BallPots$Swaps", 67, "BallPots$Draws", "lawfulCodes", "[I", "BallPots"), ("BallPots", 189, "BallPots$Draws", "lawfulCodes", "[I", "BallPots"), ("BallPots$BarTable", 98, "BallPots$Draws", "within", "[I", "BallPots"), ("BallPots", 176, "BallPots$Draws", "within", "[I", "BallPots"), ("BallPots", 211, "BallPots$Stage", "potAt", "[I", "BallPots"), ("BallPots$Reckoner", 71, "BallPots$Stage", "groupAt", "[I", "BallPots"), ("BallPots", 221, "BallPots$Stage", "groupAt", "[I", "BallPots"), ("BallPots", 227, "BallPots$Stage", "groupOf", "[I", "BallPots"), ("BallPots", 273, "BallPots$Stage", "out", "I", "BallPots"), ("BallPots", 282, "BallPots$Stage", "allowed", "[I", "BallPots"), ("BallPots$Reckoner", 158, "BallPots$Tree", "potAt", "[I", "BallPots"), ("BallPots", 145, "BallPots$Tree", "fresh", "Z", "BallPots"), ("BallPots$Reckoner", 143, "BallPots$Spread", "rows", "[J", "BallPots"), ("BallPots$Reckoner", 170, "BallPots$Spread", "tables", "[J", "BallPots"), ("BallPots$Reckoner", 167, "BallPots$Chances", "pairs", "[J", "BallPots"), ("BallPots$Reckoner", 164, "BallPots$Chances", "places", "[J", "BallPots"), ("BallPots$Reckoner", 155, "BallPots$Chances", "rows", "J", "BallPots"), ("BallPots", 311, "BallPots$Chances", "rows", "J", "BallPots"), ("BallPots$Reckoner", 115, "BallPots$Chances", "fresh", "Z", "BallPots"), ("BallPots", 149, "BallPots$Chances", "fresh", "Z", "BallPots"), ("BallPots", 150, "BallPots$BarTable", "fresh", "Z", "BallPots"), ("BallPots$Stage", 35, "BallPots", "IN_TURN", "[I", "BallPots"), ("BallPots$Spread", 80, "BallPots", "SKIP_ROWS", "[I", "BallPots"), ("BallPots$Spread", 87, "BallPots", "FIELD_ROWS", "[I", "BallPots"), ("BallPots$Spread", 93, "BallPots", "SHARES", "[I", "BallPots")]
def jw_nm : List (String × Nat × MethodName × String) := [("BallPots", 31, ⟨"BallPots$Ranks", "<init>", "()V"⟩, "BallPots"), ("BallPots", 85, ⟨"BallPots$Chances", "<init>", "()V"⟩, "BallPots"), ("BallPots", 182, ⟨"BallPots$Draws", "fewest", "([II)I"⟩, "BallPots")]
set_option maxRecDepth 20000 in
theorem fd_X0 : ∀ j, j < 5 → defaultValue (tyX0 j) = vp_V [.null, .null, .null, .null, .int 0] j := by decide +kernel
set_option maxRecDepth 20000 in
theorem fd_X1 : ∀ j, j < 4 → defaultValue (tyX1 j) = vp_V [.null, .null, .long 0, .int 0] j := by decide +kernel
set_option maxRecDepth 20000 in
theorem fd_X10 : ∀ j, j < 5 → defaultValue (tyX10 j) = vp_V [.null, .null, .null, .null, .int 0] j := by decide +kernel
set_option maxRecDepth 20000 in
theorem fd_X2 : ∀ j, j < 10 → defaultValue (tyX2 j) = vp_V [.null, .null, .int 0, .int 0, .null, .null, .null, .null, .null, .null] j := by decide +kernel
set_option maxRecDepth 20000 in
theorem fd_X3 : ∀ j, j < 11 → defaultValue (tyX3 j) = vp_V [.int 0, .int 0, .int 0, .int 0, .int 0, .null, .null, .null, .null, .null, .int 0] j := by decide +kernel
set_option maxRecDepth 20000 in
theorem fd_X4 : ∀ j, j < 9 → defaultValue (tyX4 j) = vp_V [.int 0, .int 0, .int 0, .int 0, .null, .null, .null, .null, .null] j := by decide +kernel
set_option maxRecDepth 20000 in
theorem fd_X5 : ∀ j, j < 9 → defaultValue (tyX5 j) = vp_V [.null, .null, .int 0, .int 0, .int 0, .int 0, .int 0, .int 0, .int 0] j := by decide +kernel
set_option maxRecDepth 20000 in
theorem fd_X6 : ∀ j, j < 10 → defaultValue (tyX6 j) = vp_V [.null, .null, .null, .null, .null, .null, .int 0, .int 0, .int 0, .int 0] j := by decide +kernel
set_option maxRecDepth 20000 in
theorem fd_X7 : ∀ j, j < 6 → defaultValue (tyX7 j) = vp_V [.null, .int 0, .null, .null, .null, .null] j := by decide +kernel
set_option maxRecDepth 20000 in
theorem fd_X8 : ∀ j, j < 8 → defaultValue (tyX8 j) = vp_V [.null, .null, .null, .null, .null, .null, .int 0, .null] j := by decide +kernel
set_option maxRecDepth 20000 in
theorem fd_X9 : ∀ j, j < 10 → defaultValue (tyX9 j) = vp_V [.null, .null, .null, .null, .int 0, .int 0, .int 0, .int 0, .int 0, .int 0] j := by decide +kernel
theorem iw_X0_init__X0 : ∀ w ∈ wsX00, w ∈ wsX0_init := fun _ h => List.mem_cons_of_mem _ (List.mem_append_left _ (List.mem_append_right _ h))
theorem iw_X0_init__X2 : ∀ w ∈ wsX20, w ∈ wsX0_init := fun _ h => List.mem_cons_of_mem _ (List.mem_append_right _ h)
theorem iw_X10_init__X10 : ∀ w ∈ wsX100, w ∈ wsX10_init := fun _ h => List.mem_cons_of_mem _ (List.mem_append_right _ h)
theorem iw_X11_beginAnew__X0 : ∀ w ∈ wsX00, w ∈ wsX11_beginAnew := fun _ h => List.mem_cons_of_mem _ (List.mem_append_left _ (List.mem_append_left _ (List.mem_append_left _ (List.mem_append_left _ (List.mem_append_left _ (List.mem_append_left _ (List.mem_append_right _ h)))))))
theorem iw_X11_beginAnew__X1 : ∀ w ∈ wsX10, w ∈ wsX11_beginAnew := fun _ h => List.mem_cons_of_mem _ (List.mem_append_left _ (List.mem_append_left _ (List.mem_append_left _ (List.mem_append_left _ (List.mem_append_left _ (List.mem_append_left _ (List.mem_append_left _ (List.mem_append_right _ h))))))))
theorem iw_X11_beginAnew__X10 : ∀ w ∈ wsX100, w ∈ wsX11_beginAnew := fun _ h => List.mem_cons_of_mem _ (List.mem_append_left _ (List.mem_append_left _ (List.mem_append_left _ (List.mem_append_left _ (List.mem_append_left _ (List.mem_append_left _ (List.mem_append_left _ (List.mem_append_left _ (List.mem_append_right _ h)))))))))
theorem iw_X11_beginAnew__X11 : ∀ w ∈ wsX110, w ∈ wsX11_beginAnew := fun _ h => List.mem_cons_of_mem _ (List.mem_append_left _ (List.mem_append_left _ (List.mem_append_left _ (List.mem_append_left _ (List.mem_append_left _ (List.mem_append_left _ (List.mem_append_left _ (List.mem_append_left _ (List.mem_append_left _ (List.mem_append_left _ (List.mem_append_right _ h)))))))))))
theorem iw_X11_beginAnew__X3 : ∀ w ∈ wsX30, w ∈ wsX11_beginAnew := fun _ h => List.mem_cons_of_mem _ (List.mem_append_left _ (List.mem_append_left _ (List.mem_append_left _ (List.mem_append_left _ (List.mem_append_left _ (List.mem_append_left _ (List.mem_append_left _ (List.mem_append_left _ (List.mem_append_left _ (List.mem_append_right _ h))))))))))
theorem iw_X11_init__X0 : ∀ w ∈ wsX00, w ∈ wsX11_init := fun _ h => List.mem_cons_of_mem _ (List.mem_append_left _ (List.mem_append_left _ (List.mem_append_left _ (List.mem_append_left _ (List.mem_append_right _ h)))))
theorem iw_X11_init__X1 : ∀ w ∈ wsX10, w ∈ wsX11_init := fun _ h => List.mem_cons_of_mem _ (List.mem_append_left _ (List.mem_append_left _ (List.mem_append_left _ (List.mem_append_left _ (List.mem_append_left _ (List.mem_append_right _ h))))))
theorem iw_X11_init__X10 : ∀ w ∈ wsX100, w ∈ wsX11_init := fun _ h => List.mem_cons_of_mem _ (List.mem_append_left _ (List.mem_append_left _ (List.mem_append_left _ (List.mem_append_left _ (List.mem_append_left _ (List.mem_append_left _ (List.mem_append_left _ (List.mem_append_right _ h))))))))
theorem iw_X11_init__X11 : ∀ w ∈ wsX110, w ∈ wsX11_init := fun _ h => List.mem_cons_of_mem _ (List.mem_append_left _ (List.mem_append_left _ (List.mem_append_left _ (List.mem_append_left _ (List.mem_append_left _ (List.mem_append_left _ (List.mem_append_left _ (List.mem_append_left _ (List.mem_append_left _ (List.mem_append_left _ (List.mem_append_left _ (List.mem_append_left _ (List.mem_append_left _ (List.mem_append_right _ h))))))))))))))
theorem iw_X11_init__X2 : ∀ w ∈ wsX20, w ∈ wsX11_init := fun _ h => List.mem_cons_of_mem _ (List.mem_append_left _ (List.mem_append_left _ (List.mem_append_left _ (List.mem_append_left _ (List.mem_append_left _ (List.mem_append_left _ (List.mem_append_left _ (List.mem_append_left _ (List.mem_append_left _ (List.mem_append_right _ h))))))))))
theorem iw_X11_init__X3 : ∀ w ∈ wsX30, w ∈ wsX11_init := fun _ h => List.mem_cons_of_mem _ (List.mem_append_left _ (List.mem_append_left _ (List.mem_append_left _ (List.mem_append_left _ (List.mem_append_left _ (List.mem_append_left _ (List.mem_append_left _ (List.mem_append_left _ (List.mem_append_left _ (List.mem_append_left _ (List.mem_append_left _ (List.mem_append_left _ (List.mem_append_right _ h)))))))))))))
theorem iw_X11_init__X4 : ∀ w ∈ wsX40, w ∈ wsX11_init := fun _ h => List.mem_cons_of_mem _ (List.mem_append_left _ (List.mem_append_left _ (List.mem_append_left _ (List.mem_append_left _ (List.mem_append_left _ (List.mem_append_left _ (List.mem_append_left _ (List.mem_append_left _ (List.mem_append_left _ (List.mem_append_left _ (List.mem_append_right _ h)))))))))))
theorem iw_X11_init__X5 : ∀ w ∈ wsX50, w ∈ wsX11_init := fun _ h => List.mem_cons_of_mem _ (List.mem_append_left _ (List.mem_append_left _ (List.mem_append_left _ (List.mem_append_left _ (List.mem_append_left _ (List.mem_append_left _ (List.mem_append_left _ (List.mem_append_left _ (List.mem_append_left _ (List.mem_append_left _ (List.mem_append_left _ (List.mem_append_right _ h))))))))))))
theorem iw_X11_init__X6 : ∀ w ∈ wsX60, w ∈ wsX11_init := fun _ h => List.mem_cons_of_mem _ (List.mem_append_left _ (List.mem_append_left _ (List.mem_append_left _ (List.mem_append_left _ (List.mem_append_left _ (List.mem_append_left _ (List.mem_append_right _ h)))))))
theorem iw_X11_init__X8 : ∀ w ∈ wsX80, w ∈ wsX11_init := fun _ h => List.mem_cons_of_mem _ (List.mem_append_left _ (List.mem_append_left _ (List.mem_append_left _ (List.mem_append_left _ (List.mem_append_left _ (List.mem_append_left _ (List.mem_append_left _ (List.mem_append_left _ (List.mem_append_right _ h)))))))))
theorem iw_X11_init__X9 : ∀ w ∈ wsX90, w ∈ wsX11_init := fun _ h => List.mem_cons_of_mem _ (List.mem_append_left _ (List.mem_append_left _ (List.mem_append_left _ (List.mem_append_right _ h))))
theorem iw_X11_stageChanged__X1 : ∀ w ∈ wsX10, w ∈ wsX11_stageChanged := fun _ h => List.mem_cons_of_mem _ (List.mem_append_right _ h)
theorem iw_X11_stageChanged__X11 : ∀ w ∈ wsX110, w ∈ wsX11_stageChanged := fun _ h => List.mem_cons_of_mem _ (List.mem_append_left _ (List.mem_append_right _ h))
theorem iw_X11_startChanged__X1 : ∀ w ∈ wsX10, w ∈ wsX11_startChanged := fun _ h => List.mem_cons_of_mem _ (List.mem_append_right _ h)
theorem iw_X11_startChanged__X11 : ∀ w ∈ wsX110, w ∈ wsX11_startChanged := fun _ h => List.mem_cons_of_mem _ (List.mem_append_left _ (List.mem_append_right _ h))
theorem iw_X1_init__X1 : ∀ w ∈ wsX10, w ∈ wsX1_init := fun _ h => List.mem_cons_of_mem _ (List.mem_append_right _ h)
theorem iw_X2_init__X2 : ∀ w ∈ wsX20, w ∈ wsX2_init := fun _ h => List.mem_cons_of_mem _ (List.mem_append_right _ h)
theorem iw_X2_listLawful__X2 : ∀ w ∈ wsX20, w ∈ wsX2_listLawful := fun _ h => List.mem_cons_of_mem _ (List.mem_append_left _ (List.mem_append_right _ h))
theorem iw_X2_renew__X2 : ∀ w ∈ wsX20, w ∈ wsX2_renew := fun _ h => List.mem_cons_of_mem _ (List.mem_append_left _ (List.mem_append_left _ (List.mem_append_left _ (List.mem_append_left _ (List.mem_append_right _ h)))))
theorem iw_X2_renew__X3 : ∀ w ∈ wsX30, w ∈ wsX2_renew := fun _ h => List.mem_cons_of_mem _ (List.mem_append_left _ (List.mem_append_left _ (List.mem_append_left _ (List.mem_append_right _ h))))
theorem iw_X2_tellWithin__X2 : ∀ w ∈ wsX20, w ∈ wsX2_tellWithin := fun _ h => List.mem_cons_of_mem _ (List.mem_append_left _ (List.mem_append_left _ (List.mem_append_right _ h)))
theorem iw_X2_tellWithin__X3 : ∀ w ∈ wsX30, w ∈ wsX2_tellWithin := fun _ h => List.mem_cons_of_mem _ (List.mem_append_left _ (List.mem_append_right _ h))
theorem iw_X3_init__X3 : ∀ w ∈ wsX30, w ∈ wsX3_init := fun _ h => List.mem_cons_of_mem _ (List.mem_append_right _ h)
theorem iw_X4_addRow__X4 : ∀ w ∈ wsX40, w ∈ wsX4_addRow := fun _ h => List.mem_cons_of_mem _ (List.mem_append_left _ (List.mem_append_right _ h))
theorem iw_X4_groupAt__X4 : ∀ w ∈ wsX40, w ∈ wsX4_groupAt := fun _ h => List.mem_cons_of_mem _ (List.mem_append_left _ (List.mem_append_right _ h))
theorem iw_X4_init__X4 : ∀ w ∈ wsX40, w ∈ wsX4_init := fun _ h => List.mem_cons_of_mem _ (List.mem_append_right _ h)
theorem iw_X4_rankWithSwapped__X4 : ∀ w ∈ wsX40, w ∈ wsX4_rankWithSwapped := fun _ h => List.mem_cons_of_mem _ (List.mem_append_left _ (List.mem_append_right _ h))
theorem iw_X4_setSwaps__X4 : ∀ w ∈ wsX40, w ∈ wsX4_setSwaps := fun _ h => List.mem_cons_of_mem _ (List.mem_append_left _ (List.mem_append_right _ h))
theorem iw_X4_set__X4 : ∀ w ∈ wsX40, w ∈ wsX4_set := fun _ h => List.mem_cons_of_mem _ (List.mem_append_left _ (List.mem_append_right _ h))
theorem iw_X5_init__X3 : ∀ w ∈ wsX30, w ∈ wsX5_init := fun _ h => List.mem_cons_of_mem _ (List.mem_append_left _ (List.mem_append_right _ h))
theorem iw_X5_init__X5 : ∀ w ∈ wsX50, w ∈ wsX5_init := fun _ h => List.mem_cons_of_mem _ (List.mem_append_right _ h)
theorem iw_X6_init__X2 : ∀ w ∈ wsX20, w ∈ wsX6_init := fun _ h => List.mem_cons_of_mem _ (List.mem_append_left _ (List.mem_append_right _ h))
theorem iw_X6_init__X6 : ∀ w ∈ wsX60, w ∈ wsX6_init := fun _ h => List.mem_cons_of_mem _ (List.mem_append_left _ (List.mem_append_left _ (List.mem_append_right _ h)))
theorem iw_X6_init__X7 : ∀ w ∈ wsX70, w ∈ wsX6_init := fun _ h => List.mem_cons_of_mem _ (List.mem_append_right _ h)
theorem iw_X7_init__X7 : ∀ w ∈ wsX70, w ∈ wsX7_init := fun _ h => List.mem_cons_of_mem _ (List.mem_append_right _ h)
theorem iw_X8_empty__X8 : ∀ w ∈ wsX80, w ∈ wsX8_empty := fun _ h => List.mem_cons_of_mem _ (List.mem_append_right _ h)
theorem iw_X8_init__X8 : ∀ w ∈ wsX80, w ∈ wsX8_init := fun _ h => List.mem_cons_of_mem _ (List.mem_append_right _ h)
theorem iw_X8_putInTurn__X8 : ∀ w ∈ wsX80, w ∈ wsX8_putInTurn := fun _ h => List.mem_cons_of_mem _ (List.mem_append_right _ h)
theorem iw_X9_forget__X9 : ∀ w ∈ wsX90, w ∈ wsX9_forget := fun _ h => List.mem_cons_of_mem _ (List.mem_append_right _ h)
theorem iw_X9_init__X2 : ∀ w ∈ wsX20, w ∈ wsX9_init := fun _ h => List.mem_cons_of_mem _ (List.mem_append_right _ h)
theorem iw_X9_init__X9 : ∀ w ∈ wsX90, w ∈ wsX9_init := fun _ h => List.mem_cons_of_mem _ (List.mem_append_left _ (List.mem_append_right _ h))
theorem mw_J6_bitCount_0f7a4__1 : (.constant RJ6 265 (1431655765) : Cond) ∈ wsJ6_bitCount_0f7a4 := List.mem_of_getElem? (i := 1) rfl
theorem mw_J6_bitCount_0f7a4__2 : (.constant RJ6 266 (858993459) : Cond) ∈ wsJ6_bitCount_0f7a4 := List.mem_of_getElem? (i := 2) rfl
theorem mw_J6_bitCount_0f7a4__3 : (.constant RJ6 267 (252645135) : Cond) ∈ wsJ6_bitCount_0f7a4 := List.mem_of_getElem? (i := 3) rfl
theorem mw_X0_init__1 : (.methodLink RX0 3 objectInit : Cond) ∈ wsX0_init := List.mem_of_getElem? (i := 1) rfl
theorem mw_X0_init__2 : (.instanceMethod objectInit : Cond) ∈ wsX0_init := List.mem_of_getElem? (i := 2) rfl
theorem mw_X0_init__3 : (.code objectInit ⟨#[0xb1]⟩ 1 none : Cond) ∈ wsX0_init := List.mem_of_getElem? (i := 3) rfl
theorem mw_X0_init__4 : (.arrayClass .int : Cond) ∈ wsX0_init := List.mem_of_getElem? (i := 4) rfl
theorem mw_X0_init__5 : (.fieldLink RX0 11 "BallPots$BarTable" "pairs" "[I" : Cond) ∈ wsX0_init := List.mem_of_getElem? (i := 5) rfl
theorem mw_X0_init__6 : (.fieldLink RX0 15 "BallPots$BarTable" "draws" "LBallPots$Draws;" : Cond) ∈ wsX0_init := List.mem_of_getElem? (i := 6) rfl
theorem mw_X0_init__7 : (.fieldLink RX0 25 "BallPots$BarTable" "plan" "LBallPots$Plan;" : Cond) ∈ wsX0_init := List.mem_of_getElem? (i := 7) rfl
theorem mw_X0_init__8 : (.fieldLink RX0 30 "BallPots$BarTable" "ranks" "LBallPots$Ranks;" : Cond) ∈ wsX0_init := List.mem_of_getElem? (i := 8) rfl
theorem mw_X10_init__1 : (.methodLink RX10 3 objectInit : Cond) ∈ wsX10_init := List.mem_of_getElem? (i := 1) rfl
theorem mw_X10_init__2 : (.instanceMethod objectInit : Cond) ∈ wsX10_init := List.mem_of_getElem? (i := 2) rfl
theorem mw_X10_init__3 : (.code objectInit ⟨#[0xb1]⟩ 1 none : Cond) ∈ wsX10_init := List.mem_of_getElem? (i := 3) rfl
theorem mw_X10_init__4 : (.arrayClass .int : Cond) ∈ wsX10_init := List.mem_of_getElem? (i := 4) rfl
theorem mw_X10_init__5 : (.fieldLink RX10 11 "BallPots$Tree" "sets" "[I" : Cond) ∈ wsX10_init := List.mem_of_getElem? (i := 5) rfl
theorem mw_X10_init__6 : (.fieldLink RX10 15 "BallPots$Tree" "from" "[I" : Cond) ∈ wsX10_init := List.mem_of_getElem? (i := 6) rfl
theorem mw_X10_init__7 : (.fieldLink RX10 18 "BallPots$Tree" "potAt" "[I" : Cond) ∈ wsX10_init := List.mem_of_getElem? (i := 7) rfl
theorem mw_X10_init__8 : (.fieldLink RX10 21 "BallPots$Tree" "draws" "LBallPots$Draws;" : Cond) ∈ wsX10_init := List.mem_of_getElem? (i := 8) rfl
theorem mw_X11_beginAnew__1 : (.fieldLink RX11 32 "BallPots" "ranks" "LBallPots$Ranks;" : Cond) ∈ wsX11_beginAnew := List.mem_of_getElem? (i := 1) rfl
theorem mw_X11_beginAnew__10 : (.fieldLink RX11 104 "BallPots" "nearestOrder" "I" : Cond) ∈ wsX11_beginAnew := List.mem_of_getElem? (i := 10) rfl
theorem mw_X11_beginAnew__11 : (.fieldLink RX11 108 "BallPots" "nearestArrangement" "I" : Cond) ∈ wsX11_beginAnew := List.mem_of_getElem? (i := 11) rfl
theorem mw_X11_beginAnew__2 : (.fieldLink RX11 16 "BallPots" "plan" "LBallPots$Plan;" : Cond) ∈ wsX11_beginAnew := List.mem_of_getElem? (i := 2) rfl
theorem mw_X11_beginAnew__3 : (.fieldLink RX11 41 "BallPots" "draws" "LBallPots$Draws;" : Cond) ∈ wsX11_beginAnew := List.mem_of_getElem? (i := 3) rfl
theorem mw_X11_beginAnew__4 : (.fieldLink RX11 48 "BallPots" "stage" "LBallPots$Stage;" : Cond) ∈ wsX11_beginAnew := List.mem_of_getElem? (i := 4) rfl
theorem mw_X11_beginAnew__5 : (.fieldLink RX11 57 "BallPots" "treeNow" "LBallPots$Tree;" : Cond) ∈ wsX11_beginAnew := List.mem_of_getElem? (i := 5) rfl
theorem mw_X11_beginAnew__6 : (.fieldLink RX11 61 "BallPots" "treeInTurn" "LBallPots$Tree;" : Cond) ∈ wsX11_beginAnew := List.mem_of_getElem? (i := 6) rfl
theorem mw_X11_beginAnew__7 : (.fieldLink RX11 78 "BallPots" "fromStart" "[LBallPots$Chances;" : Cond) ∈ wsX11_beginAnew := List.mem_of_getElem? (i := 7) rfl
theorem mw_X11_beginAnew__8 : (.fieldLink RX11 93 "BallPots" "barTable" "LBallPots$BarTable;" : Cond) ∈ wsX11_beginAnew := List.mem_of_getElem? (i := 8) rfl
theorem mw_X11_beginAnew__9 : (.fieldLink RX11 100 "BallPots" "swaps" "LBallPots$Swaps;" : Cond) ∈ wsX11_beginAnew := List.mem_of_getElem? (i := 9) rfl
theorem mw_X11_init__1 : (.methodLink RX11 1 objectInit : Cond) ∈ wsX11_init := List.mem_of_getElem? (i := 1) rfl
theorem mw_X11_init__10 : (.classLink RX11 20 RX5 : Cond) ∈ wsX11_init := List.mem_of_getElem? (i := 10) rfl
theorem mw_X11_init__102 : (.methodLink RX11 54 yX10_init : Cond) ∈ wsX11_init := List.mem_of_getElem? (i := 102) rfl
theorem mw_X11_init__103 : (.instanceMethod yX10_init : Cond) ∈ wsX11_init := List.mem_of_getElem? (i := 103) rfl
theorem mw_X11_init__11 : (.instantiable RX5 9 : Cond) ∈ wsX11_init := List.mem_of_getElem? (i := 11) rfl
theorem mw_X11_init__110 : (.methodLink RX11 69 yX6_init : Cond) ∈ wsX11_init := List.mem_of_getElem? (i := 110) rfl
theorem mw_X11_init__111 : (.instanceMethod yX6_init : Cond) ∈ wsX11_init := List.mem_of_getElem? (i := 111) rfl
theorem mw_X11_init__12 : (.initialized RX5 : Cond) ∈ wsX11_init := List.mem_of_getElem? (i := 12) rfl
theorem mw_X11_init__13 : (.fieldLink RX11 25 "BallPots" "reader" "LBallPots$Reader;" : Cond) ∈ wsX11_init := List.mem_of_getElem? (i := 13) rfl
theorem mw_X11_init__133 : (.instanceMethod yX1_init : Cond) ∈ wsX11_init := List.mem_of_getElem? (i := 133) rfl
theorem mw_X11_init__138 : (.methodLink RX11 92 yX0_init : Cond) ∈ wsX11_init := List.mem_of_getElem? (i := 138) rfl
theorem mw_X11_init__139 : (.instanceMethod yX0_init : Cond) ∈ wsX11_init := List.mem_of_getElem? (i := 139) rfl
theorem mw_X11_init__14 : (.classLink RX11 29 RX4 : Cond) ∈ wsX11_init := List.mem_of_getElem? (i := 14) rfl
theorem mw_X11_init__146 : (.methodLink RX11 99 yX9_init : Cond) ∈ wsX11_init := List.mem_of_getElem? (i := 146) rfl
theorem mw_X11_init__147 : (.instanceMethod yX9_init : Cond) ∈ wsX11_init := List.mem_of_getElem? (i := 147) rfl
theorem mw_X11_init__15 : (.instantiable RX4 9 : Cond) ∈ wsX11_init := List.mem_of_getElem? (i := 15) rfl
theorem mw_X11_init__16 : (.initialized RX4 : Cond) ∈ wsX11_init := List.mem_of_getElem? (i := 16) rfl
theorem mw_X11_init__17 : (.fieldLink RX11 32 "BallPots" "ranks" "LBallPots$Ranks;" : Cond) ∈ wsX11_init := List.mem_of_getElem? (i := 17) rfl
theorem mw_X11_init__18 : (.classLink RX11 36 RX2 : Cond) ∈ wsX11_init := List.mem_of_getElem? (i := 18) rfl
theorem mw_X11_init__19 : (.instantiable RX2 10 : Cond) ∈ wsX11_init := List.mem_of_getElem? (i := 19) rfl
theorem mw_X11_init__2 : (.instanceMethod objectInit : Cond) ∈ wsX11_init := List.mem_of_getElem? (i := 2) rfl
theorem mw_X11_init__20 : (.initialized RX2 : Cond) ∈ wsX11_init := List.mem_of_getElem? (i := 20) rfl
theorem mw_X11_init__21 : (.fieldLink RX11 41 "BallPots" "draws" "LBallPots$Draws;" : Cond) ∈ wsX11_init := List.mem_of_getElem? (i := 21) rfl
theorem mw_X11_init__22 : (.classLink RX11 45 RX8 : Cond) ∈ wsX11_init := List.mem_of_getElem? (i := 22) rfl
theorem mw_X11_init__23 : (.instantiable RX8 8 : Cond) ∈ wsX11_init := List.mem_of_getElem? (i := 23) rfl
theorem mw_X11_init__24 : (.initialized RX8 : Cond) ∈ wsX11_init := List.mem_of_getElem? (i := 24) rfl
theorem mw_X11_init__25 : (.fieldLink RX11 48 "BallPots" "stage" "LBallPots$Stage;" : Cond) ∈ wsX11_init := List.mem_of_getElem? (i := 25) rfl
theorem mw_X11_init__26 : (.classLink RX11 52 RX10 : Cond) ∈ wsX11_init := List.mem_of_getElem? (i := 26) rfl
theorem mw_X11_init__27 : (.instantiable RX10 5 : Cond) ∈ wsX11_init := List.mem_of_getElem? (i := 27) rfl
theorem mw_X11_init__28 : (.initialized RX10 : Cond) ∈ wsX11_init := List.mem_of_getElem? (i := 28) rfl
theorem mw_X11_init__29 : (.fieldLink RX11 57 "BallPots" "treeNow" "LBallPots$Tree;" : Cond) ∈ wsX11_init := List.mem_of_getElem? (i := 29) rfl
theorem mw_X11_init__3 : (.code objectInit ⟨#[0xb1]⟩ 1 none : Cond) ∈ wsX11_init := List.mem_of_getElem? (i := 3) rfl
theorem mw_X11_init__30 : (.fieldLink RX11 61 "BallPots" "treeInTurn" "LBallPots$Tree;" : Cond) ∈ wsX11_init := List.mem_of_getElem? (i := 30) rfl
theorem mw_X11_init__31 : (.fieldLink RX11 64 "BallPots" "treeTried" "LBallPots$Tree;" : Cond) ∈ wsX11_init := List.mem_of_getElem? (i := 31) rfl
theorem mw_X11_init__32 : (.classLink RX11 67 RX6 : Cond) ∈ wsX11_init := List.mem_of_getElem? (i := 32) rfl
theorem mw_X11_init__33 : (.instantiable RX6 10 : Cond) ∈ wsX11_init := List.mem_of_getElem? (i := 33) rfl
theorem mw_X11_init__34 : (.initialized RX6 : Cond) ∈ wsX11_init := List.mem_of_getElem? (i := 34) rfl
theorem mw_X11_init__35 : (.fieldLink RX11 72 "BallPots" "reckoner" "LBallPots$Reckoner;" : Cond) ∈ wsX11_init := List.mem_of_getElem? (i := 35) rfl
theorem mw_X11_init__36 : (.classLink RX11 76 RX1 : Cond) ∈ wsX11_init := List.mem_of_getElem? (i := 36) rfl
theorem mw_X11_init__37 : (.fieldLink RX11 78 "BallPots" "fromStart" "[LBallPots$Chances;" : Cond) ∈ wsX11_init := List.mem_of_getElem? (i := 37) rfl
theorem mw_X11_init__38 : (.fieldLink RX11 82 "BallPots" "fromNow" "[LBallPots$Chances;" : Cond) ∈ wsX11_init := List.mem_of_getElem? (i := 38) rfl
theorem mw_X11_init__39 : (.instantiable RX1 4 : Cond) ∈ wsX11_init := List.mem_of_getElem? (i := 39) rfl
theorem mw_X11_init__4 : (.arrayClass .int : Cond) ∈ wsX11_init := List.mem_of_getElem? (i := 4) rfl
theorem mw_X11_init__40 : (.initialized RX1 : Cond) ∈ wsX11_init := List.mem_of_getElem? (i := 40) rfl
theorem mw_X11_init__41 : (.fieldLink RX11 86 "BallPots" "tried" "LBallPots$Chances;" : Cond) ∈ wsX11_init := List.mem_of_getElem? (i := 41) rfl
theorem mw_X11_init__42 : (.classLink RX11 90 RX0 : Cond) ∈ wsX11_init := List.mem_of_getElem? (i := 42) rfl
theorem mw_X11_init__43 : (.instantiable RX0 5 : Cond) ∈ wsX11_init := List.mem_of_getElem? (i := 43) rfl
theorem mw_X11_init__44 : (.initialized RX0 : Cond) ∈ wsX11_init := List.mem_of_getElem? (i := 44) rfl
theorem mw_X11_init__45 : (.fieldLink RX11 93 "BallPots" "barTable" "LBallPots$BarTable;" : Cond) ∈ wsX11_init := List.mem_of_getElem? (i := 45) rfl
theorem mw_X11_init__46 : (.classLink RX11 97 RX9 : Cond) ∈ wsX11_init := List.mem_of_getElem? (i := 46) rfl
theorem mw_X11_init__47 : (.instantiable RX9 10 : Cond) ∈ wsX11_init := List.mem_of_getElem? (i := 47) rfl
theorem mw_X11_init__48 : (.initialized RX9 : Cond) ∈ wsX11_init := List.mem_of_getElem? (i := 48) rfl
theorem mw_X11_init__49 : (.fieldLink RX11 100 "BallPots" "swaps" "LBallPots$Swaps;" : Cond) ∈ wsX11_init := List.mem_of_getElem? (i := 49) rfl
theorem mw_X11_init__5 : (.fieldLink RX11 9 "BallPots" "tape" "[I" : Cond) ∈ wsX11_init := List.mem_of_getElem? (i := 5) rfl
theorem mw_X11_init__50 : (.fieldLink RX11 104 "BallPots" "nearestOrder" "I" : Cond) ∈ wsX11_init := List.mem_of_getElem? (i := 50) rfl
theorem mw_X11_init__51 : (.fieldLink RX11 108 "BallPots" "nearestArrangement" "I" : Cond) ∈ wsX11_init := List.mem_of_getElem? (i := 51) rfl
theorem mw_X11_init__52 : (.methodLink RX11 15 yX3_init : Cond) ∈ wsX11_init := List.mem_of_getElem? (i := 52) rfl
theorem mw_X11_init__53 : (.instanceMethod yX3_init : Cond) ∈ wsX11_init := List.mem_of_getElem? (i := 53) rfl
theorem mw_X11_init__6 : (.classLink RX11 13 RX3 : Cond) ∈ wsX11_init := List.mem_of_getElem? (i := 6) rfl
theorem mw_X11_init__62 : (.methodLink RX11 22 yX5_init : Cond) ∈ wsX11_init := List.mem_of_getElem? (i := 62) rfl
theorem mw_X11_init__63 : (.instanceMethod yX5_init : Cond) ∈ wsX11_init := List.mem_of_getElem? (i := 63) rfl
theorem mw_X11_init__7 : (.instantiable RX3 11 : Cond) ∈ wsX11_init := List.mem_of_getElem? (i := 7) rfl
theorem mw_X11_init__71 : (.instanceMethod yX4_init : Cond) ∈ wsX11_init := List.mem_of_getElem? (i := 71) rfl
theorem mw_X11_init__79 : (.methodLink RX11 38 yX2_init : Cond) ∈ wsX11_init := List.mem_of_getElem? (i := 79) rfl
theorem mw_X11_init__8 : (.initialized RX3 : Cond) ∈ wsX11_init := List.mem_of_getElem? (i := 8) rfl
theorem mw_X11_init__80 : (.instanceMethod yX2_init : Cond) ∈ wsX11_init := List.mem_of_getElem? (i := 80) rfl
theorem mw_X11_init__9 : (.fieldLink RX11 16 "BallPots" "plan" "LBallPots$Plan;" : Cond) ∈ wsX11_init := List.mem_of_getElem? (i := 9) rfl
theorem mw_X11_init__91 : (.methodLink RX11 47 yX8_init : Cond) ∈ wsX11_init := List.mem_of_getElem? (i := 91) rfl
theorem mw_X11_init__92 : (.instanceMethod yX8_init : Cond) ∈ wsX11_init := List.mem_of_getElem? (i := 92) rfl
theorem mw_X11_stageChanged__1 : (.fieldLink RX11 82 "BallPots" "fromNow" "[LBallPots$Chances;" : Cond) ∈ wsX11_stageChanged := List.mem_of_getElem? (i := 1) rfl
theorem mw_X11_startChanged__1 : (.fieldLink RX11 78 "BallPots" "fromStart" "[LBallPots$Chances;" : Cond) ∈ wsX11_startChanged := List.mem_of_getElem? (i := 1) rfl
theorem mw_X1_init__1 : (.methodLink RX1 3 objectInit : Cond) ∈ wsX1_init := List.mem_of_getElem? (i := 1) rfl
theorem mw_X1_init__2 : (.instanceMethod objectInit : Cond) ∈ wsX1_init := List.mem_of_getElem? (i := 2) rfl
theorem mw_X1_init__3 : (.code objectInit ⟨#[0xb1]⟩ 1 none : Cond) ∈ wsX1_init := List.mem_of_getElem? (i := 3) rfl
theorem mw_X1_init__4 : (.arrayClass .long : Cond) ∈ wsX1_init := List.mem_of_getElem? (i := 4) rfl
theorem mw_X1_init__5 : (.fieldLink RX1 9 "BallPots$Chances" "pairs" "[J" : Cond) ∈ wsX1_init := List.mem_of_getElem? (i := 5) rfl
theorem mw_X1_init__6 : (.fieldLink RX1 15 "BallPots$Chances" "places" "[J" : Cond) ∈ wsX1_init := List.mem_of_getElem? (i := 6) rfl
theorem mw_X2_init__1 : (.methodLink RX2 3 objectInit : Cond) ∈ wsX2_init := List.mem_of_getElem? (i := 1) rfl
theorem mw_X2_init__10 : (.fieldLink RX2 27 "BallPots$Draws" "held" "[I" : Cond) ∈ wsX2_init := List.mem_of_getElem? (i := 10) rfl
theorem mw_X2_init__11 : (.fieldLink RX2 30 "BallPots$Draws" "plan" "LBallPots$Plan;" : Cond) ∈ wsX2_init := List.mem_of_getElem? (i := 11) rfl
theorem mw_X2_init__12 : (.fieldLink RX2 34 "BallPots$Draws" "ranks" "LBallPots$Ranks;" : Cond) ∈ wsX2_init := List.mem_of_getElem? (i := 12) rfl
theorem mw_X2_init__2 : (.instanceMethod objectInit : Cond) ∈ wsX2_init := List.mem_of_getElem? (i := 2) rfl
theorem mw_X2_init__3 : (.code objectInit ⟨#[0xb1]⟩ 1 none : Cond) ∈ wsX2_init := List.mem_of_getElem? (i := 3) rfl
theorem mw_X2_init__4 : (.arrayClass .int : Cond) ∈ wsX2_init := List.mem_of_getElem? (i := 4) rfl
theorem mw_X2_init__5 : (.fieldLink RX2 9 "BallPots$Draws" "step" "[I" : Cond) ∈ wsX2_init := List.mem_of_getElem? (i := 5) rfl
theorem mw_X2_init__6 : (.fieldLink RX2 15 "BallPots$Draws" "broken" "[I" : Cond) ∈ wsX2_init := List.mem_of_getElem? (i := 6) rfl
theorem mw_X2_init__7 : (.fieldLink RX2 18 "BallPots$Draws" "lawfulCodes" "[I" : Cond) ∈ wsX2_init := List.mem_of_getElem? (i := 7) rfl
theorem mw_X2_init__8 : (.fieldLink RX2 21 "BallPots$Draws" "within" "[I" : Cond) ∈ wsX2_init := List.mem_of_getElem? (i := 8) rfl
theorem mw_X2_init__9 : (.fieldLink RX2 24 "BallPots$Draws" "withinSome" "[I" : Cond) ∈ wsX2_init := List.mem_of_getElem? (i := 9) rfl
theorem mw_X2_listLawful__1 : (.fieldLink RX2 92 "BallPots$Draws" "lawfulOnes" "I" : Cond) ∈ wsX2_listLawful := List.mem_of_getElem? (i := 1) rfl
theorem mw_X2_listLawful__2 : (.fieldLink RX2 38 "BallPots$Draws" "total" "I" : Cond) ∈ wsX2_listLawful := List.mem_of_getElem? (i := 2) rfl
theorem mw_X2_listLawful__3 : (.fieldLink RX2 15 "BallPots$Draws" "broken" "[I" : Cond) ∈ wsX2_listLawful := List.mem_of_getElem? (i := 3) rfl
theorem mw_X2_listLawful__4 : (.fieldLink RX2 18 "BallPots$Draws" "lawfulCodes" "[I" : Cond) ∈ wsX2_listLawful := List.mem_of_getElem? (i := 4) rfl
theorem mw_X2_renew__1 : (.fieldLink RX2 38 "BallPots$Draws" "total" "I" : Cond) ∈ wsX2_renew := List.mem_of_getElem? (i := 1) rfl
theorem mw_X2_renew__2 : (.fieldLink RX2 30 "BallPots$Draws" "plan" "LBallPots$Plan;" : Cond) ∈ wsX2_renew := List.mem_of_getElem? (i := 2) rfl
theorem mw_X2_renew__5 : (.fieldLink RX2 15 "BallPots$Draws" "broken" "[I" : Cond) ∈ wsX2_renew := List.mem_of_getElem? (i := 5) rfl
theorem mw_X2_tellWithin__1 : (.fieldLink RX2 21 "BallPots$Draws" "within" "[I" : Cond) ∈ wsX2_tellWithin := List.mem_of_getElem? (i := 1) rfl
theorem mw_X2_tellWithin__2 : (.fieldLink RX2 38 "BallPots$Draws" "total" "I" : Cond) ∈ wsX2_tellWithin := List.mem_of_getElem? (i := 2) rfl
theorem mw_X2_tellWithin__3 : (.fieldLink RX2 15 "BallPots$Draws" "broken" "[I" : Cond) ∈ wsX2_tellWithin := List.mem_of_getElem? (i := 3) rfl
theorem mw_X2_tellWithin__4 : (.fieldLink RX2 30 "BallPots$Draws" "plan" "LBallPots$Plan;" : Cond) ∈ wsX2_tellWithin := List.mem_of_getElem? (i := 4) rfl
theorem mw_X3_init__1 : (.methodLink RX3 3 objectInit : Cond) ∈ wsX3_init := List.mem_of_getElem? (i := 1) rfl
theorem mw_X3_init__10 : (.fieldLink RX3 27 "BallPots$Plan" "groups" "I" : Cond) ∈ wsX3_init := List.mem_of_getElem? (i := 10) rfl
theorem mw_X3_init__2 : (.instanceMethod objectInit : Cond) ∈ wsX3_init := List.mem_of_getElem? (i := 2) rfl
theorem mw_X3_init__3 : (.code objectInit ⟨#[0xb1]⟩ 1 none : Cond) ∈ wsX3_init := List.mem_of_getElem? (i := 3) rfl
theorem mw_X3_init__4 : (.arrayClass .int : Cond) ∈ wsX3_init := List.mem_of_getElem? (i := 4) rfl
theorem mw_X3_init__5 : (.fieldLink RX3 9 "BallPots$Plan" "teamNames" "[I" : Cond) ∈ wsX3_init := List.mem_of_getElem? (i := 5) rfl
theorem mw_X3_init__6 : (.fieldLink RX3 15 "BallPots$Plan" "marksOf" "[I" : Cond) ∈ wsX3_init := List.mem_of_getElem? (i := 6) rfl
theorem mw_X3_init__7 : (.fieldLink RX3 18 "BallPots$Plan" "markNames" "[I" : Cond) ∈ wsX3_init := List.mem_of_getElem? (i := 7) rfl
theorem mw_X3_init__8 : (.fieldLink RX3 21 "BallPots$Plan" "barTeams" "[I" : Cond) ∈ wsX3_init := List.mem_of_getElem? (i := 8) rfl
theorem mw_X3_init__9 : (.fieldLink RX3 24 "BallPots$Plan" "barRooms" "[I" : Cond) ∈ wsX3_init := List.mem_of_getElem? (i := 9) rfl
theorem mw_X4_addRow__1 : (.fieldLink RX4 27 "BallPots$Ranks" "groups" "I" : Cond) ∈ wsX4_addRow := List.mem_of_getElem? (i := 1) rfl
theorem mw_X4_addRow__2 : (.fieldLink RX4 24 "BallPots$Ranks" "row" "[I" : Cond) ∈ wsX4_addRow := List.mem_of_getElem? (i := 2) rfl
theorem mw_X4_addRow__3 : (.fieldLink RX4 9 "BallPots$Ranks" "groupOf" "[I" : Cond) ∈ wsX4_addRow := List.mem_of_getElem? (i := 3) rfl
theorem mw_X4_addRow__4 : (.fieldLink RX4 31 "BallPots$Ranks" "many" "I" : Cond) ∈ wsX4_addRow := List.mem_of_getElem? (i := 4) rfl
theorem mw_X4_addRow__5 : (.fieldLink RX4 15 "BallPots$Ranks" "placeIn" "[I" : Cond) ∈ wsX4_addRow := List.mem_of_getElem? (i := 5) rfl
theorem mw_X4_addRow__6 : (.fieldLink RX4 18 "BallPots$Ranks" "having" "[I" : Cond) ∈ wsX4_addRow := List.mem_of_getElem? (i := 6) rfl
theorem mw_X4_groupAt__1 : (.fieldLink RX4 9 "BallPots$Ranks" "groupOf" "[I" : Cond) ∈ wsX4_groupAt := List.mem_of_getElem? (i := 1) rfl
theorem mw_X4_init__1 : (.methodLink RX4 3 objectInit : Cond) ∈ wsX4_init := List.mem_of_getElem? (i := 1) rfl
theorem mw_X4_init__2 : (.instanceMethod objectInit : Cond) ∈ wsX4_init := List.mem_of_getElem? (i := 2) rfl
theorem mw_X4_init__3 : (.code objectInit ⟨#[0xb1]⟩ 1 none : Cond) ∈ wsX4_init := List.mem_of_getElem? (i := 3) rfl
theorem mw_X4_init__4 : (.arrayClass .int : Cond) ∈ wsX4_init := List.mem_of_getElem? (i := 4) rfl
theorem mw_X4_init__5 : (.fieldLink RX4 9 "BallPots$Ranks" "groupOf" "[I" : Cond) ∈ wsX4_init := List.mem_of_getElem? (i := 5) rfl
theorem mw_X4_init__6 : (.fieldLink RX4 15 "BallPots$Ranks" "placeIn" "[I" : Cond) ∈ wsX4_init := List.mem_of_getElem? (i := 6) rfl
theorem mw_X4_init__7 : (.fieldLink RX4 18 "BallPots$Ranks" "having" "[I" : Cond) ∈ wsX4_init := List.mem_of_getElem? (i := 7) rfl
theorem mw_X4_init__8 : (.fieldLink RX4 21 "BallPots$Ranks" "swapped" "[I" : Cond) ∈ wsX4_init := List.mem_of_getElem? (i := 8) rfl
theorem mw_X4_init__9 : (.fieldLink RX4 24 "BallPots$Ranks" "row" "[I" : Cond) ∈ wsX4_init := List.mem_of_getElem? (i := 9) rfl
theorem mw_X4_rankWithSwapped__1 : (.fieldLink RX4 47 "BallPots$Ranks" "everyRank" "I" : Cond) ∈ wsX4_rankWithSwapped := List.mem_of_getElem? (i := 1) rfl
theorem mw_X4_rankWithSwapped__2 : (.fieldLink RX4 27 "BallPots$Ranks" "groups" "I" : Cond) ∈ wsX4_rankWithSwapped := List.mem_of_getElem? (i := 2) rfl
theorem mw_X4_rankWithSwapped__3 : (.fieldLink RX4 18 "BallPots$Ranks" "having" "[I" : Cond) ∈ wsX4_rankWithSwapped := List.mem_of_getElem? (i := 3) rfl
theorem mw_X4_setSwaps__1 : (.fieldLink RX4 27 "BallPots$Ranks" "groups" "I" : Cond) ∈ wsX4_setSwaps := List.mem_of_getElem? (i := 1) rfl
theorem mw_X4_setSwaps__2 : (.fieldLink RX4 21 "BallPots$Ranks" "swapped" "[I" : Cond) ∈ wsX4_setSwaps := List.mem_of_getElem? (i := 2) rfl
theorem mw_X4_setSwaps__3 : (.fieldLink RX4 58 "BallPots$Ranks" "swapsAPot" "I" : Cond) ∈ wsX4_setSwaps := List.mem_of_getElem? (i := 3) rfl
theorem mw_X4_set__1 : (.fieldLink RX4 27 "BallPots$Ranks" "groups" "I" : Cond) ∈ wsX4_set := List.mem_of_getElem? (i := 1) rfl
theorem mw_X4_set__2 : (.fieldLink RX4 31 "BallPots$Ranks" "many" "I" : Cond) ∈ wsX4_set := List.mem_of_getElem? (i := 2) rfl
theorem mw_X4_set__3 : (.fieldLink RX4 18 "BallPots$Ranks" "having" "[I" : Cond) ∈ wsX4_set := List.mem_of_getElem? (i := 3) rfl
theorem mw_X4_set__4 : (.fieldLink RX4 24 "BallPots$Ranks" "row" "[I" : Cond) ∈ wsX4_set := List.mem_of_getElem? (i := 4) rfl
theorem mw_X4_set__5 : (.fieldLink RX4 47 "BallPots$Ranks" "everyRank" "I" : Cond) ∈ wsX4_set := List.mem_of_getElem? (i := 5) rfl
theorem mw_X5_init__1 : (.methodLink RX5 3 objectInit : Cond) ∈ wsX5_init := List.mem_of_getElem? (i := 1) rfl
theorem mw_X5_init__10 : (.methodLink RX5 11 yX3_init : Cond) ∈ wsX5_init := List.mem_of_getElem? (i := 10) rfl
theorem mw_X5_init__11 : (.instanceMethod yX3_init : Cond) ∈ wsX5_init := List.mem_of_getElem? (i := 11) rfl
theorem mw_X5_init__2 : (.instanceMethod objectInit : Cond) ∈ wsX5_init := List.mem_of_getElem? (i := 2) rfl
theorem mw_X5_init__3 : (.code objectInit ⟨#[0xb1]⟩ 1 none : Cond) ∈ wsX5_init := List.mem_of_getElem? (i := 3) rfl
theorem mw_X5_init__4 : (.classLink RX5 9 RX3 : Cond) ∈ wsX5_init := List.mem_of_getElem? (i := 4) rfl
theorem mw_X5_init__5 : (.instantiable RX3 11 : Cond) ∈ wsX5_init := List.mem_of_getElem? (i := 5) rfl
theorem mw_X5_init__6 : (.initialized RX3 : Cond) ∈ wsX5_init := List.mem_of_getElem? (i := 6) rfl
theorem mw_X5_init__7 : (.fieldLink RX5 12 "BallPots$Reader" "plan" "LBallPots$Plan;" : Cond) ∈ wsX5_init := List.mem_of_getElem? (i := 7) rfl
theorem mw_X5_init__8 : (.fieldLink RX5 18 "BallPots$Reader" "place" "I" : Cond) ∈ wsX5_init := List.mem_of_getElem? (i := 8) rfl
theorem mw_X5_init__9 : (.fieldLink RX5 22 "BallPots$Reader" "signs" "[I" : Cond) ∈ wsX5_init := List.mem_of_getElem? (i := 9) rfl
theorem mw_X6_init__1 : (.methodLink RX6 3 objectInit : Cond) ∈ wsX6_init := List.mem_of_getElem? (i := 1) rfl
theorem mw_X6_init__10 : (.fieldLink RX6 31 "BallPots$Reckoner" "stage" "LBallPots$Stage;" : Cond) ∈ wsX6_init := List.mem_of_getElem? (i := 10) rfl
theorem mw_X6_init__11 : (.classLink RX6 35 RX7 : Cond) ∈ wsX6_init := List.mem_of_getElem? (i := 11) rfl
theorem mw_X6_init__12 : (.instantiable RX7 6 : Cond) ∈ wsX6_init := List.mem_of_getElem? (i := 12) rfl
theorem mw_X6_init__13 : (.initialized RX7 : Cond) ∈ wsX6_init := List.mem_of_getElem? (i := 13) rfl
theorem mw_X6_init__14 : (.fieldLink RX6 40 "BallPots$Reckoner" "spread" "LBallPots$Spread;" : Cond) ∈ wsX6_init := List.mem_of_getElem? (i := 14) rfl
theorem mw_X6_init__15 : (.methodLink RX6 37 yX7_init : Cond) ∈ wsX6_init := List.mem_of_getElem? (i := 15) rfl
theorem mw_X6_init__16 : (.instanceMethod yX7_init : Cond) ∈ wsX6_init := List.mem_of_getElem? (i := 16) rfl
theorem mw_X6_init__2 : (.instanceMethod objectInit : Cond) ∈ wsX6_init := List.mem_of_getElem? (i := 2) rfl
theorem mw_X6_init__3 : (.code objectInit ⟨#[0xb1]⟩ 1 none : Cond) ∈ wsX6_init := List.mem_of_getElem? (i := 3) rfl
theorem mw_X6_init__4 : (.arrayClass .int : Cond) ∈ wsX6_init := List.mem_of_getElem? (i := 4) rfl
theorem mw_X6_init__5 : (.fieldLink RX6 9 "BallPots$Reckoner" "rankAt" "[I" : Cond) ∈ wsX6_init := List.mem_of_getElem? (i := 5) rfl
theorem mw_X6_init__6 : (.arrayClass .long : Cond) ∈ wsX6_init := List.mem_of_getElem? (i := 6) rfl
theorem mw_X6_init__7 : (.fieldLink RX6 15 "BallPots$Reckoner" "rowsAt" "[J" : Cond) ∈ wsX6_init := List.mem_of_getElem? (i := 7) rfl
theorem mw_X6_init__8 : (.fieldLink RX6 25 "BallPots$Reckoner" "plan" "LBallPots$Plan;" : Cond) ∈ wsX6_init := List.mem_of_getElem? (i := 8) rfl
theorem mw_X6_init__9 : (.fieldLink RX6 30 "BallPots$Reckoner" "ranks" "LBallPots$Ranks;" : Cond) ∈ wsX6_init := List.mem_of_getElem? (i := 9) rfl
theorem mw_X7_init__1 : (.methodLink RX7 3 objectInit : Cond) ∈ wsX7_init := List.mem_of_getElem? (i := 1) rfl
theorem mw_X7_init__10 : (.fieldLink RX7 25 "BallPots$Spread" "ranks" "LBallPots$Ranks;" : Cond) ∈ wsX7_init := List.mem_of_getElem? (i := 10) rfl
theorem mw_X7_init__2 : (.instanceMethod objectInit : Cond) ∈ wsX7_init := List.mem_of_getElem? (i := 2) rfl
theorem mw_X7_init__3 : (.code objectInit ⟨#[0xb1]⟩ 1 none : Cond) ∈ wsX7_init := List.mem_of_getElem? (i := 3) rfl
theorem mw_X7_init__4 : (.arrayClass .int : Cond) ∈ wsX7_init := List.mem_of_getElem? (i := 4) rfl
theorem mw_X7_init__5 : (.fieldLink RX7 9 "BallPots$Spread" "groupAt" "[I" : Cond) ∈ wsX7_init := List.mem_of_getElem? (i := 5) rfl
theorem mw_X7_init__6 : (.arrayClass .long : Cond) ∈ wsX7_init := List.mem_of_getElem? (i := 6) rfl
theorem mw_X7_init__7 : (.fieldLink RX7 15 "BallPots$Spread" "rows" "[J" : Cond) ∈ wsX7_init := List.mem_of_getElem? (i := 7) rfl
theorem mw_X7_init__8 : (.fieldLink RX7 19 "BallPots$Spread" "keys" "[I" : Cond) ∈ wsX7_init := List.mem_of_getElem? (i := 8) rfl
theorem mw_X7_init__9 : (.fieldLink RX7 22 "BallPots$Spread" "tables" "[J" : Cond) ∈ wsX7_init := List.mem_of_getElem? (i := 9) rfl
theorem mw_X8_empty__1 : (.fieldLink RX8 47 "BallPots$Stage" "out" "I" : Cond) ∈ wsX8_empty := List.mem_of_getElem? (i := 1) rfl
theorem mw_X8_empty__2 : (.fieldLink RX8 18 "BallPots$Stage" "groupOf" "[I" : Cond) ∈ wsX8_empty := List.mem_of_getElem? (i := 2) rfl
theorem mw_X8_init__1 : (.methodLink RX8 3 objectInit : Cond) ∈ wsX8_init := List.mem_of_getElem? (i := 1) rfl
theorem mw_X8_init__10 : (.fieldLink RX8 27 "BallPots$Stage" "plan" "LBallPots$Plan;" : Cond) ∈ wsX8_init := List.mem_of_getElem? (i := 10) rfl
theorem mw_X8_init__11 : (.fieldLink RX8 31 "BallPots$Stage" "ranks" "LBallPots$Ranks;" : Cond) ∈ wsX8_init := List.mem_of_getElem? (i := 11) rfl
theorem mw_X8_init__2 : (.instanceMethod objectInit : Cond) ∈ wsX8_init := List.mem_of_getElem? (i := 2) rfl
theorem mw_X8_init__3 : (.code objectInit ⟨#[0xb1]⟩ 1 none : Cond) ∈ wsX8_init := List.mem_of_getElem? (i := 3) rfl
theorem mw_X8_init__4 : (.arrayClass .int : Cond) ∈ wsX8_init := List.mem_of_getElem? (i := 4) rfl
theorem mw_X8_init__5 : (.fieldLink RX8 9 "BallPots$Stage" "potAt" "[I" : Cond) ∈ wsX8_init := List.mem_of_getElem? (i := 5) rfl
theorem mw_X8_init__6 : (.fieldLink RX8 15 "BallPots$Stage" "groupAt" "[I" : Cond) ∈ wsX8_init := List.mem_of_getElem? (i := 6) rfl
theorem mw_X8_init__7 : (.fieldLink RX8 18 "BallPots$Stage" "groupOf" "[I" : Cond) ∈ wsX8_init := List.mem_of_getElem? (i := 7) rfl
theorem mw_X8_init__8 : (.fieldLink RX8 21 "BallPots$Stage" "balls" "[I" : Cond) ∈ wsX8_init := List.mem_of_getElem? (i := 8) rfl
theorem mw_X8_init__9 : (.fieldLink RX8 24 "BallPots$Stage" "allowed" "[I" : Cond) ∈ wsX8_init := List.mem_of_getElem? (i := 9) rfl
theorem mw_X8_putInTurn__1 : (.fieldLink RX8 9 "BallPots$Stage" "potAt" "[I" : Cond) ∈ wsX8_putInTurn := List.mem_of_getElem? (i := 1) rfl
theorem mw_X8_putInTurn__2 : (.methodLink RX8 38 arraycopyName : Cond) ∈ wsX8_putInTurn := List.mem_of_getElem? (i := 2) rfl
theorem mw_X8_putInTurn__3 : (.native arraycopyName : Cond) ∈ wsX8_putInTurn := List.mem_of_getElem? (i := 3) rfl
theorem mw_X8_putInTurn__4 : (.static arraycopyName : Cond) ∈ wsX8_putInTurn := List.mem_of_getElem? (i := 4) rfl
theorem mw_X8_putInTurn__5 : (.initialized "java/lang/System" : Cond) ∈ wsX8_putInTurn := List.mem_of_getElem? (i := 5) rfl
theorem mw_X8_putInTurn__6 : (.fieldLink RX8 15 "BallPots$Stage" "groupAt" "[I" : Cond) ∈ wsX8_putInTurn := List.mem_of_getElem? (i := 6) rfl
theorem mw_X9_forget__1 : (.fieldLink RX9 18 "BallPots$Swaps" "done" "I" : Cond) ∈ wsX9_forget := List.mem_of_getElem? (i := 1) rfl
theorem mw_X9_forget__2 : (.fieldLink RX9 33 "BallPots$Swaps" "partsFresh" "Z" : Cond) ∈ wsX9_forget := List.mem_of_getElem? (i := 2) rfl
theorem mw_X9_init__1 : (.methodLink RX9 3 objectInit : Cond) ∈ wsX9_init := List.mem_of_getElem? (i := 1) rfl
theorem mw_X9_init__2 : (.instanceMethod objectInit : Cond) ∈ wsX9_init := List.mem_of_getElem? (i := 2) rfl
theorem mw_X9_init__3 : (.code objectInit ⟨#[0xb1]⟩ 1 none : Cond) ∈ wsX9_init := List.mem_of_getElem? (i := 3) rfl
theorem mw_X9_init__4 : (.arrayClass .int : Cond) ∈ wsX9_init := List.mem_of_getElem? (i := 4) rfl
theorem mw_X9_init__5 : (.fieldLink RX9 9 "BallPots$Swaps" "rows" "[I" : Cond) ∈ wsX9_init := List.mem_of_getElem? (i := 5) rfl
theorem mw_X9_init__6 : (.fieldLink RX9 15 "BallPots$Swaps" "other" "[I" : Cond) ∈ wsX9_init := List.mem_of_getElem? (i := 6) rfl
theorem mw_X9_init__7 : (.fieldLink RX9 18 "BallPots$Swaps" "done" "I" : Cond) ∈ wsX9_init := List.mem_of_getElem? (i := 7) rfl
theorem mw_X9_init__8 : (.fieldLink RX9 22 "BallPots$Swaps" "draws" "LBallPots$Draws;" : Cond) ∈ wsX9_init := List.mem_of_getElem? (i := 8) rfl
theorem mw_X9_init__9 : (.fieldLink RX9 32 "BallPots$Swaps" "ranks" "LBallPots$Ranks;" : Cond) ∈ wsX9_init := List.mem_of_getElem? (i := 9) rfl
theorem pn_J6_bitCount_0f7a4 : plainName yJ6_bitCount_0f7a4.cls = true := by decide +kernel
theorem pn_J7_fill_53178 : plainName yJ7_fill_53178.cls = true := by decide +kernel
theorem pn_J7_fill_d0a16 : plainName yJ7_fill_d0a16.cls = true := by decide +kernel
theorem pn_J7_fill_fda19 : plainName yJ7_fill_fda19.cls = true := by decide +kernel
theorem pn_J7_rangeCheck_23922 : plainName yJ7_rangeCheck_23922.cls = true := by decide +kernel
theorem pn_X0_init : plainName yX0_init.cls = true := by decide +kernel
theorem pn_X10_init : plainName yX10_init.cls = true := by decide +kernel
theorem pn_X11_beginAnew : plainName yX11_beginAnew.cls = true := by decide +kernel
theorem pn_X11_init : plainName yX11_init.cls = true := by decide +kernel
theorem pn_X11_stageChanged : plainName yX11_stageChanged.cls = true := by decide +kernel
theorem pn_X11_startChanged : plainName yX11_startChanged.cls = true := by decide +kernel
theorem pn_X1_init : plainName yX1_init.cls = true := by decide +kernel
theorem pn_X2_addUp : plainName yX2_addUp.cls = true := by decide +kernel
theorem pn_X2_init : plainName yX2_init.cls = true := by decide +kernel
theorem pn_X2_listLawful : plainName yX2_listLawful.cls = true := by decide +kernel
theorem pn_X2_renew : plainName yX2_renew.cls = true := by decide +kernel
theorem pn_X2_tellWithin : plainName yX2_tellWithin.cls = true := by decide +kernel
theorem pn_X3_init : plainName yX3_init.cls = true := by decide +kernel
theorem pn_X4_addRow : plainName yX4_addRow.cls = true := by decide +kernel
theorem pn_X4_groupAt : plainName yX4_groupAt.cls = true := by decide +kernel
theorem pn_X4_init : plainName yX4_init.cls = true := by decide +kernel
theorem pn_X4_only : plainName yX4_only.cls = true := by decide +kernel
theorem pn_X4_rankWithSwapped : plainName yX4_rankWithSwapped.cls = true := by decide +kernel
theorem pn_X4_readRow : plainName yX4_readRow.cls = true := by decide +kernel
theorem pn_X4_set : plainName yX4_set.cls = true := by decide +kernel
theorem pn_X4_setSwaps : plainName yX4_setSwaps.cls = true := by decide +kernel
theorem pn_X5_init : plainName yX5_init.cls = true := by decide +kernel
theorem pn_X6_init : plainName yX6_init.cls = true := by decide +kernel
theorem pn_X7_init : plainName yX7_init.cls = true := by decide +kernel
theorem pn_X8_empty : plainName yX8_empty.cls = true := by decide +kernel
theorem pn_X8_init : plainName yX8_init.cls = true := by decide +kernel
theorem pn_X8_putInTurn : plainName yX8_putInTurn.cls = true := by decide +kernel
theorem pn_X9_forget : plainName yX9_forget.cls = true := by decide +kernel
theorem pn_X9_init : plainName yX9_init.cls = true := by decide +kernel
theorem ydS_J6_bitCount_0f7a4 : yJ6_bitCount_0f7a4.cls ≠ "java/lang/invoke/MethodHandle" ∧ yJ6_bitCount_0f7a4.cls ≠ "java/lang/invoke/VarHandle" ∧ (parseMethodDescriptor yJ6_bitCount_0f7a4.desc).map (fun d => d.parameters.length) = some 1 := by decide +kernel
theorem ydS_J7_fill_53178 : yJ7_fill_53178.cls ≠ "java/lang/invoke/MethodHandle" ∧ yJ7_fill_53178.cls ≠ "java/lang/invoke/VarHandle" ∧ (parseMethodDescriptor yJ7_fill_53178.desc).map (fun d => d.parameters.length) = some 2 := by decide +kernel
theorem ydS_J7_fill_fda19 : yJ7_fill_fda19.cls ≠ "java/lang/invoke/MethodHandle" ∧ yJ7_fill_fda19.cls ≠ "java/lang/invoke/VarHandle" ∧ (parseMethodDescriptor yJ7_fill_fda19.desc).map (fun d => d.parameters.length) = some 4 := by decide +kernel
theorem ydS_J7_rangeCheck_23922 : yJ7_rangeCheck_23922.cls ≠ "java/lang/invoke/MethodHandle" ∧ yJ7_rangeCheck_23922.cls ≠ "java/lang/invoke/VarHandle" ∧ (parseMethodDescriptor yJ7_rangeCheck_23922.desc).map (fun d => d.parameters.length) = some 3 := by decide +kernel
theorem ydS_X0_init : yX0_init.cls ≠ "java/lang/invoke/MethodHandle" ∧ yX0_init.cls ≠ "java/lang/invoke/VarHandle" ∧ (parseMethodDescriptor yX0_init.desc).map (fun d => d.parameters.length) = some 1 := by decide +kernel
theorem ydS_X10_init : yX10_init.cls ≠ "java/lang/invoke/MethodHandle" ∧ yX10_init.cls ≠ "java/lang/invoke/VarHandle" ∧ (parseMethodDescriptor yX10_init.desc).map (fun d => d.parameters.length) = some 1 := by decide +kernel
theorem ydS_X1_init : yX1_init.cls ≠ "java/lang/invoke/MethodHandle" ∧ yX1_init.cls ≠ "java/lang/invoke/VarHandle" ∧ (parseMethodDescriptor yX1_init.desc).map (fun d => d.parameters.length) = some 0 := by decide +kernel
theorem ydS_X2_addUp : yX2_addUp.cls ≠ "java/lang/invoke/MethodHandle" ∧ yX2_addUp.cls ≠ "java/lang/invoke/VarHandle" ∧ (parseMethodDescriptor yX2_addUp.desc).map (fun d => d.parameters.length) = some 2 := by decide +kernel
theorem ydS_X2_init : yX2_init.cls ≠ "java/lang/invoke/MethodHandle" ∧ yX2_init.cls ≠ "java/lang/invoke/VarHandle" ∧ (parseMethodDescriptor yX2_init.desc).map (fun d => d.parameters.length) = some 2 := by decide +kernel
theorem ydS_X3_init : yX3_init.cls ≠ "java/lang/invoke/MethodHandle" ∧ yX3_init.cls ≠ "java/lang/invoke/VarHandle" ∧ (parseMethodDescriptor yX3_init.desc).map (fun d => d.parameters.length) = some 0 := by decide +kernel
theorem ydS_X4_init : yX4_init.cls ≠ "java/lang/invoke/MethodHandle" ∧ yX4_init.cls ≠ "java/lang/invoke/VarHandle" ∧ (parseMethodDescriptor yX4_init.desc).map (fun d => d.parameters.length) = some 0 := by decide +kernel
theorem ydS_X4_only : yX4_only.cls ≠ "java/lang/invoke/MethodHandle" ∧ yX4_only.cls ≠ "java/lang/invoke/VarHandle" ∧ (parseMethodDescriptor yX4_only.desc).map (fun d => d.parameters.length) = some 1 := by decide +kernel
theorem ydS_X4_readRow : yX4_readRow.cls ≠ "java/lang/invoke/MethodHandle" ∧ yX4_readRow.cls ≠ "java/lang/invoke/VarHandle" ∧ (parseMethodDescriptor yX4_readRow.desc).map (fun d => d.parameters.length) = some 3 := by decide +kernel
theorem ydS_X5_init : yX5_init.cls ≠ "java/lang/invoke/MethodHandle" ∧ yX5_init.cls ≠ "java/lang/invoke/VarHandle" ∧ (parseMethodDescriptor yX5_init.desc).map (fun d => d.parameters.length) = some 1 := by decide +kernel
theorem ydS_X6_init : yX6_init.cls ≠ "java/lang/invoke/MethodHandle" ∧ yX6_init.cls ≠ "java/lang/invoke/VarHandle" ∧ (parseMethodDescriptor yX6_init.desc).map (fun d => d.parameters.length) = some 2 := by decide +kernel
theorem ydS_X7_init : yX7_init.cls ≠ "java/lang/invoke/MethodHandle" ∧ yX7_init.cls ≠ "java/lang/invoke/VarHandle" ∧ (parseMethodDescriptor yX7_init.desc).map (fun d => d.parameters.length) = some 1 := by decide +kernel
theorem ydS_X8_init : yX8_init.cls ≠ "java/lang/invoke/MethodHandle" ∧ yX8_init.cls ≠ "java/lang/invoke/VarHandle" ∧ (parseMethodDescriptor yX8_init.desc).map (fun d => d.parameters.length) = some 2 := by decide +kernel
theorem ydS_X9_init : yX9_init.cls ≠ "java/lang/invoke/MethodHandle" ∧ yX9_init.cls ≠ "java/lang/invoke/VarHandle" ∧ (parseMethodDescriptor yX9_init.desc).map (fun d => d.parameters.length) = some 1 := by decide +kernel
theorem ydV_X11_beginAnew : yX11_beginAnew.cls = RX11 ∧ yX11_beginAnew.cls ≠ "java/lang/invoke/MethodHandle" ∧ yX11_beginAnew.cls ≠ "java/lang/invoke/VarHandle" ∧ (parseMethodDescriptor yX11_beginAnew.desc).map (fun d => d.parameters.length) = some 0 := by decide +kernel
theorem ydV_X11_stageChanged : yX11_stageChanged.cls = RX11 ∧ yX11_stageChanged.cls ≠ "java/lang/invoke/MethodHandle" ∧ yX11_stageChanged.cls ≠ "java/lang/invoke/VarHandle" ∧ (parseMethodDescriptor yX11_stageChanged.desc).map (fun d => d.parameters.length) = some 0 := by decide +kernel
theorem ydV_X11_startChanged : yX11_startChanged.cls = RX11 ∧ yX11_startChanged.cls ≠ "java/lang/invoke/MethodHandle" ∧ yX11_startChanged.cls ≠ "java/lang/invoke/VarHandle" ∧ (parseMethodDescriptor yX11_startChanged.desc).map (fun d => d.parameters.length) = some 0 := by decide +kernel
theorem ydV_X2_listLawful : yX2_listLawful.cls = RX2 ∧ yX2_listLawful.cls ≠ "java/lang/invoke/MethodHandle" ∧ yX2_listLawful.cls ≠ "java/lang/invoke/VarHandle" ∧ (parseMethodDescriptor yX2_listLawful.desc).map (fun d => d.parameters.length) = some 0 := by decide +kernel
theorem ydV_X2_renew : yX2_renew.cls = RX2 ∧ yX2_renew.cls ≠ "java/lang/invoke/MethodHandle" ∧ yX2_renew.cls ≠ "java/lang/invoke/VarHandle" ∧ (parseMethodDescriptor yX2_renew.desc).map (fun d => d.parameters.length) = some 0 := by decide +kernel
theorem ydV_X2_tellWithin : yX2_tellWithin.cls = RX2 ∧ yX2_tellWithin.cls ≠ "java/lang/invoke/MethodHandle" ∧ yX2_tellWithin.cls ≠ "java/lang/invoke/VarHandle" ∧ (parseMethodDescriptor yX2_tellWithin.desc).map (fun d => d.parameters.length) = some 0 := by decide +kernel
theorem ydV_X4_addRow : yX4_addRow.cls = RX4 ∧ yX4_addRow.cls ≠ "java/lang/invoke/MethodHandle" ∧ yX4_addRow.cls ≠ "java/lang/invoke/VarHandle" ∧ (parseMethodDescriptor yX4_addRow.desc).map (fun d => d.parameters.length) = some 0 := by decide +kernel
theorem ydV_X4_groupAt : yX4_groupAt.cls = RX4 ∧ yX4_groupAt.cls ≠ "java/lang/invoke/MethodHandle" ∧ yX4_groupAt.cls ≠ "java/lang/invoke/VarHandle" ∧ (parseMethodDescriptor yX4_groupAt.desc).map (fun d => d.parameters.length) = some 2 := by decide +kernel
theorem ydV_X4_rankWithSwapped : yX4_rankWithSwapped.cls = RX4 ∧ yX4_rankWithSwapped.cls ≠ "java/lang/invoke/MethodHandle" ∧ yX4_rankWithSwapped.cls ≠ "java/lang/invoke/VarHandle" ∧ (parseMethodDescriptor yX4_rankWithSwapped.desc).map (fun d => d.parameters.length) = some 3 := by decide +kernel
theorem ydV_X4_set : yX4_set.cls = RX4 ∧ yX4_set.cls ≠ "java/lang/invoke/MethodHandle" ∧ yX4_set.cls ≠ "java/lang/invoke/VarHandle" ∧ (parseMethodDescriptor yX4_set.desc).map (fun d => d.parameters.length) = some 1 := by decide +kernel
theorem ydV_X4_setSwaps : yX4_setSwaps.cls = RX4 ∧ yX4_setSwaps.cls ≠ "java/lang/invoke/MethodHandle" ∧ yX4_setSwaps.cls ≠ "java/lang/invoke/VarHandle" ∧ (parseMethodDescriptor yX4_setSwaps.desc).map (fun d => d.parameters.length) = some 1 := by decide +kernel
theorem ydV_X8_empty : yX8_empty.cls = RX8 ∧ yX8_empty.cls ≠ "java/lang/invoke/MethodHandle" ∧ yX8_empty.cls ≠ "java/lang/invoke/VarHandle" ∧ (parseMethodDescriptor yX8_empty.desc).map (fun d => d.parameters.length) = some 0 := by decide +kernel
theorem ydV_X8_putInTurn : yX8_putInTurn.cls = RX8 ∧ yX8_putInTurn.cls ≠ "java/lang/invoke/MethodHandle" ∧ yX8_putInTurn.cls ≠ "java/lang/invoke/VarHandle" ∧ (parseMethodDescriptor yX8_putInTurn.desc).map (fun d => d.parameters.length) = some 0 := by decide +kernel
theorem ydV_X9_forget : yX9_forget.cls = RX9 ∧ yX9_forget.cls ≠ "java/lang/invoke/MethodHandle" ∧ yX9_forget.cls ≠ "java/lang/invoke/VarHandle" ∧ (parseMethodDescriptor yX9_forget.desc).map (fun d => d.parameters.length) = some 0 := by decide +kernel
