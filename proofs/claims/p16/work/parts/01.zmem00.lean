/-- the links within the nest -/
def jw_nf : List (String × Nat × String × String × String × String) := [("BallPots$Reckoner", 59, "BallPots$Plan", "groups", "I", "BallPots"), ("BallPots$Draws", 81, "BallPots$Plan", "groups", "I", "BallPots"), ("BallPots", 133, "BallPots$Plan", "groups", "I", "BallPots"), ("BallPots$BarTable", 81, "BallPots$Plan", "groups", "I", "BallPots"), ("BallPots$Stage", 77, "BallPots$Plan", "groups", "I", "BallPots"), ("BallPots$Reader", 112, "BallPots$Plan", "groups", "I", "BallPots"), ("BallPots$Draws", 42, "BallPots$Plan", "pots", "I", "BallPots"), ("BallPots$Tree", 37, "BallPots$Plan", "pots", "I", "BallPots"), ("BallPots$Reckoner", 104, "BallPots$Plan", "pots", "I", "BallPots"), ("BallPots$BarTable", 75, "BallPots$Plan", "pots", "I", "BallPots"), ("BallPots$Swaps", 91, "BallPots$Plan", "pots", "I", "BallPots"), ("BallPots$Reader", 115, "BallPots$Plan", "pots", "I", "BallPots"), ("BallPots$Stage", 88, "BallPots$Plan", "pots", "I", "BallPots"), ("BallPots", 208, "BallPots$Plan", "pots", "I", "BallPots"), ("BallPots$BarTable", 101, "BallPots$Plan", "teams", "I", "BallPots"), ("BallPots$Stage", 66, "BallPots$Plan", "teams", "I", "BallPots"), ("BallPots$Reader", 118, "BallPots$Plan", "teams", "I", "BallPots"), ("BallPots", 202, "BallPots$Plan", "teams", "I", "BallPots"), ("BallPots$Reader", 132, "BallPots$Plan", "marks", "I", "BallPots"), ("BallPots", 465, "BallPots$Plan", "marks", "I", "BallPots"), ("BallPots$BarTable", 35, "BallPots$Plan", "bars", "I", "BallPots"), ("BallPots$Draws", 58, "BallPots$Plan", "bars", "I", "BallPots"), ("BallPots", 179, "BallPots$Plan", "bars", "I", "BallPots"), ("BallPots$Reader", 148, "BallPots$Plan", "bars", "I", "BallPots"), ("BallPots$Reader", 145, "BallPots$Plan", "marksOf", "[I", "BallPots"), ("BallPots", 462, "BallPots$Plan", "marksOf", "[I", "BallPots"), ("BallPots$Draws", 61, "BallPots$Plan", "barTeams", "[I", "BallPots"), ("BallPots$Draws", 68, "BallPots$Plan", "barRooms", "[I", "BallPots"), ("BallPots", 128, "BallPots$Reader", "plan", "LBallPots$Plan;", "BallPots"), ("BallPots", 125, "BallPots$Reader", "fault", "I", "BallPots"), ("BallPots", 160, "BallPots$Reader", "place", "I", "BallPots"), ("BallPots$Spread", 45, "BallPots$Ranks", "groups", "I", "BallPots"), ("BallPots$Draws", 47, "BallPots$Ranks", "many", "I", "BallPots"), ("BallPots$Tree", 47, "BallPots$Ranks", "many", "I", "BallPots"), ("BallPots$Spread", 54, "BallPots$Ranks", "many", "I", "BallPots"), ("BallPots$Reckoner", 152, "BallPots$Ranks", "many", "I", "BallPots"), ("BallPots$Stage", 97, "BallPots$Ranks", "many", "I", "BallPots"), ("BallPots", 404, "BallPots$Ranks", "many", "I", "BallPots"), ("BallPots$Reckoner", 51, "BallPots$Ranks", "everyRank", "I", "BallPots"), ("BallPots$Stage", 80, "BallPots$Ranks", "everyRank", "I", "BallPots"), ("BallPots$Swaps", 102, "BallPots$Ranks", "swapsAPot", "I", "BallPots"), ("BallPots$BarTable", 84, "BallPots$Ranks", "placeIn", "[I", "BallPots"), ("BallPots$Reckoner", 161, "BallPots$Ranks", "placeIn", "[I", "BallPots"), ("BallPots$Spread", 100, "BallPots$Ranks", "having", "[I", "BallPots"), ("BallPots$Stage", 85, "BallPots$Ranks", "having", "[I", "BallPots"), ("BallPots$Swaps", 107, "BallPots$Ranks", "swapped", "[I", "BallPots"), ("BallPots$BarTable", 19, "BallPots$Draws", "plan", "LBallPots$Plan;", "BallPots"), ("BallPots$Reckoner", 19, "BallPots$Draws", "plan", "LBallPots$Plan;", "BallPots"), ("BallPots$Tree", 31, "BallPots$Draws", "plan", "LBallPots$Plan;", "BallPots"), ("BallPots$Swaps", 87, "BallPots$Draws", "plan", "LBallPots$Plan;", "BallPots"), ("BallPots$BarTable", 26, "BallPots$Draws", "ranks", "LBallPots$Ranks;", "BallPots"), ("BallPots$Reckoner", 26, "BallPots$Draws", "ranks", "LBallPots$Ranks;", "BallPots"), ("BallPots$Swaps", 26, "BallPots$Draws", "ranks", "LBallPots$Ranks;", "BallPots"), ("BallPots$Tree", 43, "BallPots$Draws", "ranks", "LBallPots$Ranks;", "BallPots"), ("BallPots$BarTable", 51, "BallPots$Draws", "total", "I", "BallPots"), ("BallPots$Tree", 73, "BallPots$Draws", "total", "I", "BallPots"), ("BallPots$Swaps", 49, "BallPots$Draws", "total", "I", "BallPots"), ("BallPots", 205, "BallPots$Draws", "total", "I", "BallPots"), ("BallPots$Swaps", 64, "BallPots$Draws", "lawfulOnes", "I", "BallPots"), ("BallPots", 169, "BallPots$Draws", "lawfulOnes", "I", "BallPots"), ("BallPots$Tree", 63, "BallPots$Draws", "step", "[I", "BallPots"), ("BallPots$Swaps", 96, "BallPots$Draws", "step", "[I", "BallPots"), ("BallPots", 401, "BallPots$Draws", "step", "[I", "BallPots"), ("BallPots$BarTable", 54, "BallPots$Draws", "broken", "[I", "BallPots"), ("BallPots$Tree", 70, "BallPots$Draws", "broken", "[I", "BallPots"), ("BallPots$Swaps", 110, "BallPots$Draws", "broken", "[I", "BallPots"), ("BallPots", 199, "BallPots$Draws", "broken", "[I", "BallPots"), ("BallPots$Swaps", 67, "BallPots$Draws", "lawfulCodes", "[I", "BallPots"), ("BallPots", 189, "BallPots$Draws", "lawfulCodes", "[I", "BallPots"), ("BallPots$BarTable", 98, "BallPots$Draws", "within", "[I", "BallPots"), ("BallPots", 176, "BallPots$Draws", "within", "[I", "BallPots"), ("BallPots", 211, "BallPots$Stage", "potAt", "[I", "BallPots"), ("BallPots$Reckoner", 71, "BallPots$Stage", "groupAt", "[I", "BallPots"), ("BallPots", 221, "BallPots$Stage", "groupAt", "[I", "BallPots"), ("BallPots", 227, "BallPots$Stage", "groupOf", "[I", "BallPots"), ("BallPots", 273, "BallPots$Stage", "out", "I", "BallPots"), ("BallPots", 282, "BallPots$Stage", "allowed", "[I", "BallPots"), ("BallPots$Reckoner", 158, "BallPots$Tree", "potAt", "[I", "BallPots"), ("BallPots", 145, "BallPots$Tree", "fresh", "Z", "BallPots"), ("BallPots$Reckoner", 143, "BallPots$Spread", "rows", "[J", "BallPots"), ("BallPots$Reckoner", 170, "BallPots$Spread", "tables", "[J", "BallPots"), ("BallPots$Reckoner", 167, "BallPots$Chances", "pairs", "[J", "BallPots"), ("BallPots$Reckoner", 164, "BallPots$Chances", "places", "[J", "BallPots"), ("BallPots$Reckoner", 155, "BallPots$Chances", "rows", "J", "BallPots"), ("BallPots", 311, "BallPots$Chances", "rows", "J", "BallPots"), ("BallPots$Reckoner", 115, "BallPots$Chances", "fresh", "Z", "BallPots"), ("BallPots", 149, "BallPots$Chances", "fresh", "Z", "BallPots"), ("BallPots", 150, "BallPots$BarTable", "fresh", "Z", "BallPots"), ("BallPots$Stage", 35, "BallPots", "IN_TURN", "[I", "BallPots"), ("BallPots$Spread", 80, "BallPots", "SKIP_ROWS", "[I", "BallPots"), ("BallPots$Spread", 87, "BallPots", "FIELD_ROWS", "[I", "BallPots"), ("BallPots$Spread", 93, "BallPots", "SHARES", "[I", "BallPots")]
def jw_nm : List (String × Nat × MethodName × String) := [("BallPots", 31, ⟨"BallPots$Ranks", "<init>", "()V"⟩, "BallPots"), ("BallPots", 85, ⟨"BallPots$Chances", "<init>", "()V"⟩, "BallPots"), ("BallPots", 182, ⟨"BallPots$Draws", "fewest", "([II)I"⟩, "BallPots")]
theorem gw_fieldLink {a : String} {b : Nat} {c : String} {d : String} {e : String} : goodWord (.fieldLink a b c d e) = true := rfl
theorem gw_methodLink {a : String} {b : Nat} {y : MethodName} : goodWord (.methodLink a b y) = true := rfl
theorem gw_code {y : MethodName} {z : ByteArray} {n : Nat} {r : Option FieldType} : goodWord (.code y z n r) = true := rfl
theorem gw_instanceMethod {y : MethodName} : goodWord (.instanceMethod y) = true := rfl
theorem gw_selects {a : String} {y : MethodName} {y2 : MethodName} : goodWord (.selects a y y2) = true := rfl
theorem gw_initialized {a : String} : goodWord (.initialized a) = true := rfl
theorem gw_static {y : MethodName} : goodWord (.static y) = true := rfl
theorem gw_constant {a : String} {b : Nat} {v : Int32} : goodWord (.constant a b v) = true := rfl
theorem gw_sameMethod {a : String} {c : String} {d : String} {e : String} : goodWord (.sameMethod a c d e) = true := rfl
theorem gw_classLink {a : String} {b : Nat} {c : String} : goodWord (.classLink a b c) = true := rfl
theorem gw_arrayClass {t : FieldType} : goodWord (.arrayClass t) = true := rfl
theorem gw_native {y : MethodName} : goodWord (.native y) = true := rfl
theorem gw_instantiable {a : String} {b : Nat} : goodWord (.instantiable a b) = true := rfl
theorem gw_constantLong {a : String} {b : Nat} {v2 : Int64} : goodWord (.constantLong a b v2) = true := rfl
theorem gw_superclass {a : String} {c : String} : goodWord (.superclass a c) = true := rfl
theorem gi_nil {big : List Cond} : GoodIn big [] := fun _ h => nomatch h
theorem gi_cons {big ws : List Cond} {w : Cond} (hm : w ∈ big) (hg : goodWord w = true) (h : GoodIn big ws) : GoodIn big (w :: ws) := fun v hv => (List.mem_cons.mp hv).elim (fun e => e ▸ ⟨hm, good_of_word hg⟩) (h v)
theorem rl_wsX12_all_r1 : ∀ w ∈ wsX12_all_r1, w ∈ wsX12_all := fun _ h => (List.mem_cons_of_mem _ (List.mem_append_left _ (List.mem_append_left _ h)))
theorem rl_wsX12_all_r2 : ∀ w ∈ wsX12_all_r2, w ∈ wsX12_all := fun _ h => (List.mem_cons_of_mem _ (List.mem_append_left _ (List.mem_append_right _ (List.mem_append_left _ h))))
theorem rl_wsX12_all_r3 : ∀ w ∈ wsX12_all_r3, w ∈ wsX12_all := fun _ h => (List.mem_cons_of_mem _ (List.mem_append_left _ (List.mem_append_right _ (List.mem_append_right _ (List.mem_append_left _ h)))))
theorem rl_wsX12_all_r4 : ∀ w ∈ wsX12_all_r4, w ∈ wsX12_all := fun _ h => (List.mem_cons_of_mem _ (List.mem_append_left _ (List.mem_append_right _ (List.mem_append_right _ (List.mem_append_right _ h)))))
theorem rl_wsX12_apart_r1 : ∀ w ∈ wsX12_apart_r1, w ∈ wsX12_apart := fun _ h => (List.mem_cons_of_mem _ (List.mem_append_left _ (List.mem_append_left _ h)))
theorem rl_wsX12_apart_r2 : ∀ w ∈ wsX12_apart_r2, w ∈ wsX12_apart := fun _ h => (List.mem_cons_of_mem _ (List.mem_append_left _ (List.mem_append_right _ (List.mem_append_left _ h))))
theorem rl_wsX12_apart_r3 : ∀ w ∈ wsX12_apart_r3, w ∈ wsX12_apart := fun _ h => (List.mem_cons_of_mem _ (List.mem_append_left _ (List.mem_append_right _ (List.mem_append_right _ (List.mem_append_left _ h)))))
theorem rl_wsX12_apart_r4 : ∀ w ∈ wsX12_apart_r4, w ∈ wsX12_apart := fun _ h => (List.mem_cons_of_mem _ (List.mem_append_left _ (List.mem_append_right _ (List.mem_append_right _ (List.mem_append_right _ (List.mem_append_left _ h))))))
theorem rl_wsX12_apart_r5 : ∀ w ∈ wsX12_apart_r5, w ∈ wsX12_apart := fun _ h => (List.mem_cons_of_mem _ (List.mem_append_left _ (List.mem_append_right _ (List.mem_append_right _ (List.mem_append_right _ (List.mem_append_right _ h))))))
theorem rl_wsX12_ball_r1 : ∀ w ∈ wsX12_ball_r1, w ∈ wsX12_ball := fun _ h => (List.mem_cons_of_mem _ (List.mem_append_left _ (List.mem_append_left _ h)))
theorem rl_wsX12_ball_r2 : ∀ w ∈ wsX12_ball_r2, w ∈ wsX12_ball := fun _ h => (List.mem_cons_of_mem _ (List.mem_append_left _ (List.mem_append_right _ h)))
theorem rl_wsX12_barLine_r1 : ∀ w ∈ wsX12_barLine_r1, w ∈ wsX12_barLine := fun _ h => (List.mem_cons_of_mem _ (List.mem_append_left _ (List.mem_append_left _ h)))
theorem rl_wsX12_barLine_r2 : ∀ w ∈ wsX12_barLine_r2, w ∈ wsX12_barLine := fun _ h => (List.mem_cons_of_mem _ (List.mem_append_left _ (List.mem_append_right _ (List.mem_append_left _ h))))
theorem rl_wsX12_barLine_r3 : ∀ w ∈ wsX12_barLine_r3, w ∈ wsX12_barLine := fun _ h => (List.mem_cons_of_mem _ (List.mem_append_left _ (List.mem_append_right _ (List.mem_append_right _ h))))
theorem rl_wsX12_blame_r1 : ∀ w ∈ wsX12_blame_r1, w ∈ wsX12_blame := fun _ h => (List.mem_cons_of_mem _ (List.mem_append_left _ (List.mem_append_left _ h)))
theorem rl_wsX12_blame_r2 : ∀ w ∈ wsX12_blame_r2, w ∈ wsX12_blame := fun _ h => (List.mem_cons_of_mem _ (List.mem_append_left _ (List.mem_append_right _ h)))
theorem rl_wsX12_keep_r1 : ∀ w ∈ wsX12_keep_r1, w ∈ wsX12_keep := fun _ h => (List.mem_cons_of_mem _ (List.mem_append_left _ (List.mem_append_left _ h)))
theorem rl_wsX12_keep_r2 : ∀ w ∈ wsX12_keep_r2, w ∈ wsX12_keep := fun _ h => (List.mem_cons_of_mem _ (List.mem_append_left _ (List.mem_append_right _ h)))
theorem rl_wsX12_layApart_r1 : ∀ w ∈ wsX12_layApart_r1, w ∈ wsX12_layApart := fun _ h => (List.mem_cons_of_mem _ (List.mem_append_left _ (List.mem_append_left _ h)))
theorem rl_wsX12_layApart_r2 : ∀ w ∈ wsX12_layApart_r2, w ∈ wsX12_layApart := fun _ h => (List.mem_cons_of_mem _ (List.mem_append_left _ (List.mem_append_right _ (List.mem_append_left _ h))))
theorem rl_wsX12_layApart_r3 : ∀ w ∈ wsX12_layApart_r3, w ∈ wsX12_layApart := fun _ h => (List.mem_cons_of_mem _ (List.mem_append_left _ (List.mem_append_right _ (List.mem_append_right _ (List.mem_append_left _ h)))))
theorem rl_wsX12_layApart_r4 : ∀ w ∈ wsX12_layApart_r4, w ∈ wsX12_layApart := fun _ h => (List.mem_cons_of_mem _ (List.mem_append_left _ (List.mem_append_right _ (List.mem_append_right _ (List.mem_append_right _ h)))))
theorem rl_wsX12_layStage_r1 : ∀ w ∈ wsX12_layStage_r1, w ∈ wsX12_layStage := fun _ h => (List.mem_cons_of_mem _ (List.mem_append_left _ (List.mem_append_left _ h)))
theorem rl_wsX12_layStage_r2 : ∀ w ∈ wsX12_layStage_r2, w ∈ wsX12_layStage := fun _ h => (List.mem_cons_of_mem _ (List.mem_append_left _ (List.mem_append_right _ (List.mem_append_left _ h))))
theorem rl_wsX12_layStage_r3 : ∀ w ∈ wsX12_layStage_r3, w ∈ wsX12_layStage := fun _ h => (List.mem_cons_of_mem _ (List.mem_append_left _ (List.mem_append_right _ (List.mem_append_right _ (List.mem_append_left _ h)))))
theorem rl_wsX12_layStage_r4 : ∀ w ∈ wsX12_layStage_r4, w ∈ wsX12_layStage := fun _ h => (List.mem_cons_of_mem _ (List.mem_append_left _ (List.mem_append_right _ (List.mem_append_right _ (List.mem_append_right _ h)))))
theorem rl_wsX12_laySwaps_r1 : ∀ w ∈ wsX12_laySwaps_r1, w ∈ wsX12_laySwaps := fun _ h => (List.mem_cons_of_mem _ (List.mem_append_left _ (List.mem_append_left _ h)))
theorem rl_wsX12_laySwaps_r2 : ∀ w ∈ wsX12_laySwaps_r2, w ∈ wsX12_laySwaps := fun _ h => (List.mem_cons_of_mem _ (List.mem_append_left _ (List.mem_append_right _ h)))
theorem rl_wsX12_layWeights_r1 : ∀ w ∈ wsX12_layWeights_r1, w ∈ wsX12_layWeights := fun _ h => (List.mem_cons_of_mem _ (List.mem_append_left _ (List.mem_append_left _ h)))
theorem rl_wsX12_layWeights_r2 : ∀ w ∈ wsX12_layWeights_r2, w ∈ wsX12_layWeights := fun _ h => (List.mem_cons_of_mem _ (List.mem_append_left _ (List.mem_append_right _ (List.mem_append_left _ h))))
theorem rl_wsX12_layWeights_r3 : ∀ w ∈ wsX12_layWeights_r3, w ∈ wsX12_layWeights := fun _ h => (List.mem_cons_of_mem _ (List.mem_append_left _ (List.mem_append_right _ (List.mem_append_right _ h))))
theorem rl_wsX12_leads_r1 : ∀ w ∈ wsX12_leads_r1, w ∈ wsX12_leads := fun _ h => (List.mem_cons_of_mem _ (List.mem_append_left _ (List.mem_append_left _ h)))
theorem rl_wsX12_leads_r2 : ∀ w ∈ wsX12_leads_r2, w ∈ wsX12_leads := fun _ h => (List.mem_cons_of_mem _ (List.mem_append_left _ (List.mem_append_right _ (List.mem_append_left _ h))))
theorem rl_wsX12_leads_r3 : ∀ w ∈ wsX12_leads_r3, w ∈ wsX12_leads := fun _ h => (List.mem_cons_of_mem _ (List.mem_append_left _ (List.mem_append_right _ (List.mem_append_right _ h))))
theorem rl_wsX12_leave_r1 : ∀ w ∈ wsX12_leave_r1, w ∈ wsX12_leave := fun _ h => (List.mem_cons_of_mem _ (List.mem_append_left _ (List.mem_append_left _ h)))
theorem rl_wsX12_leave_r2 : ∀ w ∈ wsX12_leave_r2, w ∈ wsX12_leave := fun _ h => (List.mem_cons_of_mem _ (List.mem_append_left _ (List.mem_append_right _ h)))
theorem rl_wsX12_lineRead_r1 : ∀ w ∈ wsX12_lineRead_r1, w ∈ wsX12_lineRead := fun _ h => (List.mem_cons_of_mem _ (List.mem_append_left _ (List.mem_append_left _ h)))
theorem rl_wsX12_lineRead_r2 : ∀ w ∈ wsX12_lineRead_r2, w ∈ wsX12_lineRead := fun _ h => (List.mem_cons_of_mem _ (List.mem_append_left _ (List.mem_append_right _ (List.mem_append_left _ h))))
theorem rl_wsX12_lineRead_r3 : ∀ w ∈ wsX12_lineRead_r3, w ∈ wsX12_lineRead := fun _ h => (List.mem_cons_of_mem _ (List.mem_append_left _ (List.mem_append_right _ (List.mem_append_right _ h))))
theorem rl_wsX12_markLine_r1 : ∀ w ∈ wsX12_markLine_r1, w ∈ wsX12_markLine := fun _ h => (List.mem_cons_of_mem _ (List.mem_append_left _ (List.mem_append_left _ h)))
theorem rl_wsX12_markLine_r2 : ∀ w ∈ wsX12_markLine_r2, w ∈ wsX12_markLine := fun _ h => (List.mem_cons_of_mem _ (List.mem_append_left _ (List.mem_append_right _ h)))
theorem rl_wsX12_mix_r1 : ∀ w ∈ wsX12_mix_r1, w ∈ wsX12_mix := fun _ h => (List.mem_cons_of_mem _ (List.mem_append_left _ (List.mem_append_left _ h)))
theorem rl_wsX12_mix_r2 : ∀ w ∈ wsX12_mix_r2, w ∈ wsX12_mix := fun _ h => (List.mem_cons_of_mem _ (List.mem_append_left _ (List.mem_append_right _ (List.mem_append_left _ h))))
theorem rl_wsX12_mix_r3 : ∀ w ∈ wsX12_mix_r3, w ∈ wsX12_mix := fun _ h => (List.mem_cons_of_mem _ (List.mem_append_left _ (List.mem_append_right _ (List.mem_append_right _ h))))
theorem rl_wsX12_mixed_r1 : ∀ w ∈ wsX12_mixed_r1, w ∈ wsX12_mixed := fun _ h => (List.mem_cons_of_mem _ (List.mem_append_left _ (List.mem_append_left _ h)))
theorem rl_wsX12_mixed_r2 : ∀ w ∈ wsX12_mixed_r2, w ∈ wsX12_mixed := fun _ h => (List.mem_cons_of_mem _ (List.mem_append_left _ (List.mem_append_right _ (List.mem_append_left _ h))))
theorem rl_wsX12_mixed_r3 : ∀ w ∈ wsX12_mixed_r3, w ∈ wsX12_mixed := fun _ h => (List.mem_cons_of_mem _ (List.mem_append_left _ (List.mem_append_right _ (List.mem_append_right _ h))))
theorem rl_wsX12_mixes_r1 : ∀ w ∈ wsX12_mixes_r1, w ∈ wsX12_mixes := fun _ h => (List.mem_cons_of_mem _ (List.mem_append_left _ (List.mem_append_left _ h)))
theorem rl_wsX12_mixes_r2 : ∀ w ∈ wsX12_mixes_r2, w ∈ wsX12_mixes := fun _ h => (List.mem_cons_of_mem _ (List.mem_append_left _ (List.mem_append_right _ (List.mem_append_left _ h))))
theorem rl_wsX12_mixes_r3 : ∀ w ∈ wsX12_mixes_r3, w ∈ wsX12_mixes := fun _ h => (List.mem_cons_of_mem _ (List.mem_append_left _ (List.mem_append_right _ (List.mem_append_right _ h))))
theorem rl_wsX12_nearest_r1 : ∀ w ∈ wsX12_nearest_r1, w ∈ wsX12_nearest := fun _ h => (List.mem_cons_of_mem _ (List.mem_append_left _ (List.mem_append_left _ h)))
theorem rl_wsX12_nearest_r2 : ∀ w ∈ wsX12_nearest_r2, w ∈ wsX12_nearest := fun _ h => (List.mem_cons_of_mem _ (List.mem_append_left _ (List.mem_append_right _ (List.mem_append_left _ h))))
theorem rl_wsX12_nearest_r3 : ∀ w ∈ wsX12_nearest_r3, w ∈ wsX12_nearest := fun _ h => (List.mem_cons_of_mem _ (List.mem_append_left _ (List.mem_append_right _ (List.mem_append_right _ (List.mem_append_left _ h)))))
theorem rl_wsX12_nearest_r4 : ∀ w ∈ wsX12_nearest_r4, w ∈ wsX12_nearest := fun _ h => (List.mem_cons_of_mem _ (List.mem_append_left _ (List.mem_append_right _ (List.mem_append_right _ (List.mem_append_right _ (List.mem_append_left _ h))))))
theorem rl_wsX12_nearest_r5 : ∀ w ∈ wsX12_nearest_r5, w ∈ wsX12_nearest := fun _ h => (List.mem_cons_of_mem _ (List.mem_append_left _ (List.mem_append_right _ (List.mem_append_right _ (List.mem_append_right _ (List.mem_append_right _ h))))))
theorem rl_wsX12_pair_r1 : ∀ w ∈ wsX12_pair_r1, w ∈ wsX12_pair := fun _ h => (List.mem_cons_of_mem _ (List.mem_append_left _ (List.mem_append_left _ h)))
theorem rl_wsX12_pair_r2 : ∀ w ∈ wsX12_pair_r2, w ∈ wsX12_pair := fun _ h => (List.mem_cons_of_mem _ (List.mem_append_left _ (List.mem_append_right _ (List.mem_append_left _ h))))
theorem rl_wsX12_pair_r3 : ∀ w ∈ wsX12_pair_r3, w ∈ wsX12_pair := fun _ h => (List.mem_cons_of_mem _ (List.mem_append_left _ (List.mem_append_right _ (List.mem_append_right _ (List.mem_append_left _ h)))))
theorem rl_wsX12_pair_r4 : ∀ w ∈ wsX12_pair_r4, w ∈ wsX12_pair := fun _ h => (List.mem_cons_of_mem _ (List.mem_append_left _ (List.mem_append_right _ (List.mem_append_right _ (List.mem_append_right _ h)))))
theorem rl_wsX12_parts_r1 : ∀ w ∈ wsX12_parts_r1, w ∈ wsX12_parts := fun _ h => (List.mem_cons_of_mem _ (List.mem_append_left _ (List.mem_append_left _ h)))
theorem rl_wsX12_parts_r2 : ∀ w ∈ wsX12_parts_r2, w ∈ wsX12_parts := fun _ h => (List.mem_cons_of_mem _ (List.mem_append_left _ (List.mem_append_right _ (List.mem_append_left _ h))))
theorem rl_wsX12_parts_r3 : ∀ w ∈ wsX12_parts_r3, w ∈ wsX12_parts := fun _ h => (List.mem_cons_of_mem _ (List.mem_append_left _ (List.mem_append_right _ (List.mem_append_right _ h))))
theorem rl_wsX12_place_r1 : ∀ w ∈ wsX12_place_r1, w ∈ wsX12_place := fun _ h => (List.mem_cons_of_mem _ (List.mem_append_left _ (List.mem_append_left _ h)))
theorem rl_wsX12_place_r2 : ∀ w ∈ wsX12_place_r2, w ∈ wsX12_place := fun _ h => (List.mem_cons_of_mem _ (List.mem_append_left _ (List.mem_append_right _ (List.mem_append_left _ h))))
theorem rl_wsX12_place_r3 : ∀ w ∈ wsX12_place_r3, w ∈ wsX12_place := fun _ h => (List.mem_cons_of_mem _ (List.mem_append_left _ (List.mem_append_right _ (List.mem_append_right _ (List.mem_append_left _ h)))))
theorem rl_wsX12_place_r4 : ∀ w ∈ wsX12_place_r4, w ∈ wsX12_place := fun _ h => (List.mem_cons_of_mem _ (List.mem_append_left _ (List.mem_append_right _ (List.mem_append_right _ (List.mem_append_right _ h)))))
theorem rl_wsX12_pot_r1 : ∀ w ∈ wsX12_pot_r1, w ∈ wsX12_pot := fun _ h => (List.mem_cons_of_mem _ (List.mem_append_left _ (List.mem_append_left _ h)))
theorem rl_wsX12_pot_r2 : ∀ w ∈ wsX12_pot_r2, w ∈ wsX12_pot := fun _ h => (List.mem_cons_of_mem _ (List.mem_append_left _ (List.mem_append_right _ h)))
theorem rl_wsX12_potRead_r1 : ∀ w ∈ wsX12_potRead_r1, w ∈ wsX12_potRead := fun _ h => (List.mem_cons_of_mem _ (List.mem_append_left _ (List.mem_append_left _ h)))
theorem rl_wsX12_potRead_r2 : ∀ w ∈ wsX12_potRead_r2, w ∈ wsX12_potRead := fun _ h => (List.mem_cons_of_mem _ (List.mem_append_left _ (List.mem_append_right _ h)))
theorem rl_wsX12_put_r1 : ∀ w ∈ wsX12_put_r1, w ∈ wsX12_put := fun _ h => (List.mem_cons_of_mem _ (List.mem_append_left _ (List.mem_append_left _ h)))
theorem rl_wsX12_put_r2 : ∀ w ∈ wsX12_put_r2, w ∈ wsX12_put := fun _ h => (List.mem_cons_of_mem _ (List.mem_append_left _ (List.mem_append_right _ h)))
theorem rl_wsX12_run_r1 : ∀ w ∈ wsX12_run_r1, w ∈ wsX12_run := fun _ h => (List.mem_cons_of_mem _ (List.mem_append_left _ (List.mem_append_left _ h)))
theorem rl_wsX12_run_r2 : ∀ w ∈ wsX12_run_r2, w ∈ wsX12_run := fun _ h => (List.mem_cons_of_mem _ (List.mem_append_left _ (List.mem_append_right _ (List.mem_append_left _ h))))
theorem rl_wsX12_run_r3 : ∀ w ∈ wsX12_run_r3, w ∈ wsX12_run := fun _ h => (List.mem_cons_of_mem _ (List.mem_append_left _ (List.mem_append_right _ (List.mem_append_right _ h))))
theorem rl_wsX12_text_r1 : ∀ w ∈ wsX12_text_r1, w ∈ wsX12_text := fun _ h => (List.mem_cons_of_mem _ (List.mem_append_left _ (List.mem_append_left _ h)))
theorem rl_wsX12_text_r2 : ∀ w ∈ wsX12_text_r2, w ∈ wsX12_text := fun _ h => (List.mem_cons_of_mem _ (List.mem_append_left _ (List.mem_append_right _ (List.mem_append_left _ h))))
theorem rl_wsX12_text_r3 : ∀ w ∈ wsX12_text_r3, w ∈ wsX12_text := fun _ h => (List.mem_cons_of_mem _ (List.mem_append_left _ (List.mem_append_right _ (List.mem_append_right _ (List.mem_append_left _ h)))))
theorem rl_wsX12_text_r4 : ∀ w ∈ wsX12_text_r4, w ∈ wsX12_text := fun _ h => (List.mem_cons_of_mem _ (List.mem_append_left _ (List.mem_append_right _ (List.mem_append_right _ (List.mem_append_right _ (List.mem_append_left _ h))))))
theorem rl_wsX12_text_r5 : ∀ w ∈ wsX12_text_r5, w ∈ wsX12_text := fun _ h => (List.mem_cons_of_mem _ (List.mem_append_left _ (List.mem_append_right _ (List.mem_append_right _ (List.mem_append_right _ (List.mem_append_right _ h))))))
theorem mw_X12_agreeing__1 : (.fieldLink RX12 185 "BallPotsModel" "groups" "I" : Cond) ∈ wsX12_agreeing := List.mem_of_getElem? (i := 1) rfl
theorem mw_X12_agreeing__2 : (.fieldLink RX12 90 "BallPotsModel" "having" "[I" : Cond) ∈ wsX12_agreeing := List.mem_of_getElem? (i := 2) rfl
theorem mw_X12_agreeing__3 : (.methodLink RX12 291 yX12_digit : Cond) ∈ wsX12_agreeing := List.mem_of_getElem? (i := 3) rfl
theorem mw_X12_agreeing__4 : (.instanceMethod yX12_digit : Cond) ∈ wsX12_agreeing := List.mem_of_getElem? (i := 4) rfl
theorem mw_X12_agreeing__5 : (.selects RX12 yX12_digit yX12_digit : Cond) ∈ wsX12_agreeing := List.mem_of_getElem? (i := 5) rfl
theorem mw_X12_agreeing__6 : (.initialized RX12 : Cond) ∈ wsX12_agreeing := List.mem_of_getElem? (i := 6) rfl
theorem mw_X12_agreeing__7 : (.code yX12_digit cX12_digit 3 (some .int) : Cond) ∈ wsX12_agreeing := List.mem_of_getElem? (i := 7) rfl
theorem mw_X12_agreeing__8 : (.fieldLink RX12 93 "BallPotsModel" "power" "[I" : Cond) ∈ wsX12_agreeing := List.mem_of_getElem? (i := 8) rfl
theorem mw_X12_all__1 : (.fieldLink RX12 132 "BallPotsModel" "thrown" "I" : Cond) ∈ wsX12_all := rl_wsX12_all_r1 _ (List.mem_of_getElem? (i := 0) rfl)
theorem mw_X12_all__2 : (.constantLong RX12 327 (-1) : Cond) ∈ wsX12_all := rl_wsX12_all_r1 _ (List.mem_of_getElem? (i := 1) rfl)
theorem mw_X12_all__3 : (.methodLink RX12 324 yX12_isWay : Cond) ∈ wsX12_all := rl_wsX12_all_r1 _ (List.mem_of_getElem? (i := 2) rfl)
theorem mw_X12_all__4 : (.static yX12_isWay : Cond) ∈ wsX12_all := rl_wsX12_all_r1 _ (List.mem_of_getElem? (i := 3) rfl)
theorem mw_X12_all__5 : (.initialized RX12 : Cond) ∈ wsX12_all := rl_wsX12_all_r1 _ (List.mem_of_getElem? (i := 4) rfl)
theorem mw_X12_all__6 : (.code yX12_isWay cX12_isWay 1 (some .boolean) : Cond) ∈ wsX12_all := rl_wsX12_all_r1 _ (List.mem_of_getElem? (i := 5) rfl)
theorem mw_X12_all__7 : (.methodLink RX12 329 yX12_layStage : Cond) ∈ wsX12_all := rl_wsX12_all_r1 _ (List.mem_of_getElem? (i := 6) rfl)
theorem mw_X12_all__8 : (.instanceMethod yX12_layStage : Cond) ∈ wsX12_all := rl_wsX12_all_r1 _ (List.mem_of_getElem? (i := 7) rfl)
theorem mw_X12_all__9 : (.selects RX12 yX12_layStage yX12_layStage : Cond) ∈ wsX12_all := rl_wsX12_all_r1 _ (List.mem_of_getElem? (i := 8) rfl)
theorem mw_X12_all__10 : (.code yX12_layStage cX12_layStage 2 none : Cond) ∈ wsX12_all := rl_wsX12_all_r1 _ (List.mem_of_getElem? (i := 9) rfl)
theorem mw_X12_all__11 : (.fieldLink RX12 102 "BallPotsModel" "laid" "I" : Cond) ∈ wsX12_all := rl_wsX12_all_r1 _ (List.mem_of_getElem? (i := 10) rfl)
theorem mw_X12_all__12 : (.methodLink RX12 304 yX12_turnsAs : Cond) ∈ wsX12_all := rl_wsX12_all_r1 _ (List.mem_of_getElem? (i := 11) rfl)
theorem mw_X12_all__13 : (.instanceMethod yX12_turnsAs : Cond) ∈ wsX12_all := rl_wsX12_all_r1 _ (List.mem_of_getElem? (i := 12) rfl)
theorem mw_X12_all__14 : (.selects RX12 yX12_turnsAs yX12_turnsAs : Cond) ∈ wsX12_all := rl_wsX12_all_r1 _ (List.mem_of_getElem? (i := 13) rfl)
theorem mw_X12_all__15 : (.code yX12_turnsAs cX12_turnsAs 2 none : Cond) ∈ wsX12_all := rl_wsX12_all_r1 _ (List.mem_of_getElem? (i := 14) rfl)
theorem mw_X12_all__16 : (.fieldLink RX12 71 "BallPotsModel" "turn" "[I" : Cond) ∈ wsX12_all := rl_wsX12_all_r1 _ (List.mem_of_getElem? (i := 15) rfl)
theorem mw_X12_all__17 : (.fieldLink RX12 59 "BallPotsModel" "order" "[I" : Cond) ∈ wsX12_all := rl_wsX12_all_r1 _ (List.mem_of_getElem? (i := 16) rfl)
theorem mw_X12_all__18 : (.fieldLink RX12 74 "BallPotsModel" "look" "[I" : Cond) ∈ wsX12_all := rl_wsX12_all_r1 _ (List.mem_of_getElem? (i := 17) rfl)
theorem mw_X12_all__19 : (.fieldLink RX12 62 "BallPotsModel" "arranged" "[I" : Cond) ∈ wsX12_all := rl_wsX12_all_r1 _ (List.mem_of_getElem? (i := 18) rfl)
theorem mw_X12_all__20 : (.methodLink RX12 307 yX12_layWeights : Cond) ∈ wsX12_all := rl_wsX12_all_r1 _ (List.mem_of_getElem? (i := 19) rfl)
theorem mw_X12_all__21 : (.instanceMethod yX12_layWeights : Cond) ∈ wsX12_all := rl_wsX12_all_r1 _ (List.mem_of_getElem? (i := 20) rfl)
theorem mw_X12_all__22 : (.selects RX12 yX12_layWeights yX12_layWeights : Cond) ∈ wsX12_all := rl_wsX12_all_r1 _ (List.mem_of_getElem? (i := 21) rfl)
theorem mw_X12_all__23 : (.code yX12_layWeights cX12_layWeights 10 none : Cond) ∈ wsX12_all := rl_wsX12_all_r1 _ (List.mem_of_getElem? (i := 22) rfl)
theorem mw_X12_all__24 : (.fieldLink RX12 234 "BallPotsModel" "out" "I" : Cond) ∈ wsX12_all := rl_wsX12_all_r1 _ (List.mem_of_getElem? (i := 23) rfl)
theorem mw_X12_all__25 : (.fieldLink RX12 248 "BallPotsModel" "draws" "I" : Cond) ∈ wsX12_all := rl_wsX12_all_r2 _ (List.mem_of_getElem? (i := 0) rfl)
theorem mw_X12_all__26 : (.fieldLink RX12 99 "BallPotsModel" "weight" "[J" : Cond) ∈ wsX12_all := rl_wsX12_all_r2 _ (List.mem_of_getElem? (i := 1) rfl)
theorem mw_X12_all__27 : (.fieldLink RX12 47 "BallPotsModel" "breaks" "[I" : Cond) ∈ wsX12_all := rl_wsX12_all_r2 _ (List.mem_of_getElem? (i := 2) rfl)
theorem mw_X12_all__28 : (.fieldLink RX12 251 "BallPotsModel" "lawful" "I" : Cond) ∈ wsX12_all := rl_wsX12_all_r2 _ (List.mem_of_getElem? (i := 3) rfl)
theorem mw_X12_all__29 : (.fieldLink RX12 77 "BallPotsModel" "level" "[I" : Cond) ∈ wsX12_all := rl_wsX12_all_r2 _ (List.mem_of_getElem? (i := 4) rfl)
theorem mw_X12_all__30 : (.fieldLink RX12 188 "BallPotsModel" "pots" "I" : Cond) ∈ wsX12_all := rl_wsX12_all_r2 _ (List.mem_of_getElem? (i := 5) rfl)
theorem mw_X12_all__31 : (.fieldLink RX12 83 "BallPotsModel" "ways" "[J" : Cond) ∈ wsX12_all := rl_wsX12_all_r2 _ (List.mem_of_getElem? (i := 6) rfl)
theorem mw_X12_all__32 : (.fieldLink RX12 185 "BallPotsModel" "groups" "I" : Cond) ∈ wsX12_all := rl_wsX12_all_r2 _ (List.mem_of_getElem? (i := 7) rfl)
theorem mw_X12_all__33 : (.fieldLink RX12 245 "BallPotsModel" "ranks" "I" : Cond) ∈ wsX12_all := rl_wsX12_all_r2 _ (List.mem_of_getElem? (i := 8) rfl)
theorem mw_X12_all__34 : (.fieldLink RX12 288 "BallPotsModel" "parts" "I" : Cond) ∈ wsX12_all := rl_wsX12_all_r2 _ (List.mem_of_getElem? (i := 9) rfl)
theorem mw_X12_all__35 : (.fieldLink RX12 87 "BallPotsModel" "indexOf" "[I" : Cond) ∈ wsX12_all := rl_wsX12_all_r2 _ (List.mem_of_getElem? (i := 10) rfl)
theorem mw_X12_all__36 : (.methodLink RX12 311 yX12_layMasks : Cond) ∈ wsX12_all := rl_wsX12_all_r2 _ (List.mem_of_getElem? (i := 11) rfl)
theorem mw_X12_all__37 : (.instanceMethod yX12_layMasks : Cond) ∈ wsX12_all := rl_wsX12_all_r2 _ (List.mem_of_getElem? (i := 12) rfl)
theorem mw_X12_all__38 : (.selects RX12 yX12_layMasks yX12_layMasks : Cond) ∈ wsX12_all := rl_wsX12_all_r2 _ (List.mem_of_getElem? (i := 13) rfl)
theorem mw_X12_all__39 : (.code yX12_layMasks cX12_layMasks 6 none : Cond) ∈ wsX12_all := rl_wsX12_all_r2 _ (List.mem_of_getElem? (i := 14) rfl)
theorem mw_X12_all__40 : (.fieldLink RX12 80 "BallPotsModel" "mask" "[I" : Cond) ∈ wsX12_all := rl_wsX12_all_r2 _ (List.mem_of_getElem? (i := 15) rfl)
theorem mw_X12_all__41 : (.fieldLink RX12 90 "BallPotsModel" "having" "[I" : Cond) ∈ wsX12_all := rl_wsX12_all_r2 _ (List.mem_of_getElem? (i := 16) rfl)
theorem mw_X12_all__42 : (.fieldLink RX12 44 "BallPotsModel" "row" "[I" : Cond) ∈ wsX12_all := rl_wsX12_all_r2 _ (List.mem_of_getElem? (i := 17) rfl)
theorem mw_X12_all__43 : (.fieldLink RX12 93 "BallPotsModel" "power" "[I" : Cond) ∈ wsX12_all := rl_wsX12_all_r2 _ (List.mem_of_getElem? (i := 18) rfl)
theorem mw_X12_all__44 : (.methodLink RX12 254 yX12_rankIn : Cond) ∈ wsX12_all := rl_wsX12_all_r2 _ (List.mem_of_getElem? (i := 19) rfl)
theorem mw_X12_all__45 : (.instanceMethod yX12_rankIn : Cond) ∈ wsX12_all := rl_wsX12_all_r2 _ (List.mem_of_getElem? (i := 20) rfl)
theorem mw_X12_all__46 : (.selects RX12 yX12_rankIn yX12_rankIn : Cond) ∈ wsX12_all := rl_wsX12_all_r2 _ (List.mem_of_getElem? (i := 21) rfl)
theorem mw_X12_all__47 : (.code yX12_rankIn cX12_rankIn 5 (some .int) : Cond) ∈ wsX12_all := rl_wsX12_all_r2 _ (List.mem_of_getElem? (i := 22) rfl)
theorem mw_X12_all__48 : (.methodLink RX12 275 yX12_isAsPlaced : Cond) ∈ wsX12_all := rl_wsX12_all_r2 _ (List.mem_of_getElem? (i := 23) rfl)
theorem mw_X12_all__49 : (.instanceMethod yX12_isAsPlaced : Cond) ∈ wsX12_all := rl_wsX12_all_r3 _ (List.mem_of_getElem? (i := 0) rfl)
theorem mw_X12_all__50 : (.selects RX12 yX12_isAsPlaced yX12_isAsPlaced : Cond) ∈ wsX12_all := rl_wsX12_all_r3 _ (List.mem_of_getElem? (i := 1) rfl)
theorem mw_X12_all__51 : (.code yX12_isAsPlaced cX12_isAsPlaced 4 (some .boolean) : Cond) ∈ wsX12_all := rl_wsX12_all_r3 _ (List.mem_of_getElem? (i := 2) rfl)
theorem mw_X12_all__52 : (.fieldLink RX12 51 "BallPotsModel" "groupOf" "[B" : Cond) ∈ wsX12_all := rl_wsX12_all_r3 _ (List.mem_of_getElem? (i := 3) rfl)
theorem mw_X12_all__53 : (.fieldLink RX12 65 "BallPotsModel" "ballOf" "[I" : Cond) ∈ wsX12_all := rl_wsX12_all_r3 _ (List.mem_of_getElem? (i := 4) rfl)
theorem mw_X12_all__54 : (.fieldLink RX12 68 "BallPotsModel" "groupGot" "[I" : Cond) ∈ wsX12_all := rl_wsX12_all_r3 _ (List.mem_of_getElem? (i := 5) rfl)
theorem mw_X12_all__55 : (.methodLink RX12 314 yX12_placedPart : Cond) ∈ wsX12_all := rl_wsX12_all_r3 _ (List.mem_of_getElem? (i := 6) rfl)
theorem mw_X12_all__56 : (.instanceMethod yX12_placedPart : Cond) ∈ wsX12_all := rl_wsX12_all_r3 _ (List.mem_of_getElem? (i := 7) rfl)
theorem mw_X12_all__57 : (.selects RX12 yX12_placedPart yX12_placedPart : Cond) ∈ wsX12_all := rl_wsX12_all_r3 _ (List.mem_of_getElem? (i := 8) rfl)
theorem mw_X12_all__58 : (.code yX12_placedPart cX12_placedPart 5 (some .int) : Cond) ∈ wsX12_all := rl_wsX12_all_r3 _ (List.mem_of_getElem? (i := 9) rfl)
theorem mw_X12_all__59 : (.methodLink RX12 317 yX12_rankOf : Cond) ∈ wsX12_all := rl_wsX12_all_r3 _ (List.mem_of_getElem? (i := 10) rfl)
theorem mw_X12_all__60 : (.instanceMethod yX12_rankOf : Cond) ∈ wsX12_all := rl_wsX12_all_r3 _ (List.mem_of_getElem? (i := 11) rfl)
theorem mw_X12_all__61 : (.selects RX12 yX12_rankOf yX12_rankOf : Cond) ∈ wsX12_all := rl_wsX12_all_r3 _ (List.mem_of_getElem? (i := 12) rfl)
theorem mw_X12_all__62 : (.code yX12_rankOf cX12_rankOf 4 (some .int) : Cond) ∈ wsX12_all := rl_wsX12_all_r3 _ (List.mem_of_getElem? (i := 13) rfl)
theorem mw_X12_all__63 : (.methodLink RX12 294 yX12_agreeing : Cond) ∈ wsX12_all := rl_wsX12_all_r3 _ (List.mem_of_getElem? (i := 14) rfl)
theorem mw_X12_all__64 : (.instanceMethod yX12_agreeing : Cond) ∈ wsX12_all := rl_wsX12_all_r3 _ (List.mem_of_getElem? (i := 15) rfl)
theorem mw_X12_all__65 : (.selects RX12 yX12_agreeing yX12_agreeing : Cond) ∈ wsX12_all := rl_wsX12_all_r3 _ (List.mem_of_getElem? (i := 16) rfl)
theorem mw_X12_all__66 : (.code yX12_agreeing cX12_agreeing 5 (some .int) : Cond) ∈ wsX12_all := rl_wsX12_all_r3 _ (List.mem_of_getElem? (i := 17) rfl)
theorem mw_X12_all__67 : (.methodLink RX12 291 yX12_digit : Cond) ∈ wsX12_all := rl_wsX12_all_r3 _ (List.mem_of_getElem? (i := 18) rfl)
theorem mw_X12_all__68 : (.instanceMethod yX12_digit : Cond) ∈ wsX12_all := rl_wsX12_all_r3 _ (List.mem_of_getElem? (i := 19) rfl)
theorem mw_X12_all__69 : (.selects RX12 yX12_digit yX12_digit : Cond) ∈ wsX12_all := rl_wsX12_all_r3 _ (List.mem_of_getElem? (i := 20) rfl)
theorem mw_X12_all__70 : (.code yX12_digit cX12_digit 3 (some .int) : Cond) ∈ wsX12_all := rl_wsX12_all_r3 _ (List.mem_of_getElem? (i := 21) rfl)
theorem mw_X12_all__71 : (.methodLink RX12 320 yX12_pot : Cond) ∈ wsX12_all := rl_wsX12_all_r3 _ (List.mem_of_getElem? (i := 22) rfl)
theorem mw_X12_all__72 : (.instanceMethod yX12_pot : Cond) ∈ wsX12_all := rl_wsX12_all_r3 _ (List.mem_of_getElem? (i := 23) rfl)
theorem mw_X12_all__73 : (.selects RX12 yX12_pot yX12_pot : Cond) ∈ wsX12_all := rl_wsX12_all_r4 _ (List.mem_of_getElem? (i := 0) rfl)
theorem mw_X12_all__74 : (.code yX12_pot cX12_pot 9 none : Cond) ∈ wsX12_all := rl_wsX12_all_r4 _ (List.mem_of_getElem? (i := 1) rfl)
theorem mw_X12_all__75 : (.fieldLink RX12 96 "BallPotsModel" "part" "[J" : Cond) ∈ wsX12_all := rl_wsX12_all_r4 _ (List.mem_of_getElem? (i := 2) rfl)
theorem mw_X12_all__76 : (.methodLink RX12 300 yX12_comes : Cond) ∈ wsX12_all := rl_wsX12_all_r4 _ (List.mem_of_getElem? (i := 3) rfl)
theorem mw_X12_all__77 : (.instanceMethod yX12_comes : Cond) ∈ wsX12_all := rl_wsX12_all_r4 _ (List.mem_of_getElem? (i := 4) rfl)
theorem mw_X12_all__78 : (.selects RX12 yX12_comes yX12_comes : Cond) ∈ wsX12_all := rl_wsX12_all_r4 _ (List.mem_of_getElem? (i := 5) rfl)
theorem mw_X12_all__79 : (.code yX12_comes cX12_comes 10 none : Cond) ∈ wsX12_all := rl_wsX12_all_r4 _ (List.mem_of_getElem? (i := 6) rfl)
theorem mw_X12_all__80 : (.methodLink RX12 297 yX12_share : Cond) ∈ wsX12_all := rl_wsX12_all_r4 _ (List.mem_of_getElem? (i := 7) rfl)
theorem mw_X12_all__81 : (.static yX12_share : Cond) ∈ wsX12_all := rl_wsX12_all_r4 _ (List.mem_of_getElem? (i := 8) rfl)
theorem mw_X12_all__82 : (.code yX12_share cX12_share 1 (some .int) : Cond) ∈ wsX12_all := rl_wsX12_all_r4 _ (List.mem_of_getElem? (i := 9) rfl)
theorem mw_X12_all__83 : (.methodLink RX12 337 yX12_allRows : Cond) ∈ wsX12_all := rl_wsX12_all_r4 _ (List.mem_of_getElem? (i := 10) rfl)
theorem mw_X12_all__84 : (.instanceMethod yX12_allRows : Cond) ∈ wsX12_all := rl_wsX12_all_r4 _ (List.mem_of_getElem? (i := 11) rfl)
theorem mw_X12_all__85 : (.selects RX12 yX12_allRows yX12_allRows : Cond) ∈ wsX12_all := rl_wsX12_all_r4 _ (List.mem_of_getElem? (i := 12) rfl)
theorem mw_X12_all__86 : (.code yX12_allRows cX12_allRows 4 (some .long) : Cond) ∈ wsX12_all := rl_wsX12_all_r4 _ (List.mem_of_getElem? (i := 13) rfl)
theorem mw_X12_allRows__1 : (.fieldLink RX12 248 "BallPotsModel" "draws" "I" : Cond) ∈ wsX12_allRows := List.mem_of_getElem? (i := 1) rfl
theorem mw_X12_allRows__2 : (.fieldLink RX12 99 "BallPotsModel" "weight" "[J" : Cond) ∈ wsX12_allRows := List.mem_of_getElem? (i := 2) rfl
theorem mw_X12_apart__1 : (.fieldLink RX12 132 "BallPotsModel" "thrown" "I" : Cond) ∈ wsX12_apart := rl_wsX12_apart_r1 _ (List.mem_of_getElem? (i := 0) rfl)
theorem mw_X12_apart__2 : (.fieldLink RX12 251 "BallPotsModel" "lawful" "I" : Cond) ∈ wsX12_apart := rl_wsX12_apart_r1 _ (List.mem_of_getElem? (i := 1) rfl)
theorem mw_X12_apart__3 : (.constantLong RX12 360 (-9223372036854775808) : Cond) ∈ wsX12_apart := rl_wsX12_apart_r1 _ (List.mem_of_getElem? (i := 2) rfl)
theorem mw_X12_apart__4 : (.fieldLink RX12 345 "BallPotsModel" "apart" "J" : Cond) ∈ wsX12_apart := rl_wsX12_apart_r1 _ (List.mem_of_getElem? (i := 3) rfl)
theorem mw_X12_apart__5 : (.fieldLink RX12 348 "BallPotsModel" "sum" "J" : Cond) ∈ wsX12_apart := rl_wsX12_apart_r1 _ (List.mem_of_getElem? (i := 4) rfl)
theorem mw_X12_apart__6 : (.fieldLink RX12 351 "BallPotsModel" "farOne" "I" : Cond) ∈ wsX12_apart := rl_wsX12_apart_r1 _ (List.mem_of_getElem? (i := 5) rfl)
theorem mw_X12_apart__7 : (.fieldLink RX12 354 "BallPotsModel" "farOther" "I" : Cond) ∈ wsX12_apart := rl_wsX12_apart_r1 _ (List.mem_of_getElem? (i := 6) rfl)
theorem mw_X12_apart__8 : (.fieldLink RX12 357 "BallPotsModel" "far" "J" : Cond) ∈ wsX12_apart := rl_wsX12_apart_r1 _ (List.mem_of_getElem? (i := 7) rfl)
theorem mw_X12_apart__9 : (.fieldLink RX12 341 "BallPotsModel" "beneath" "J" : Cond) ∈ wsX12_apart := rl_wsX12_apart_r1 _ (List.mem_of_getElem? (i := 8) rfl)
theorem mw_X12_apart__10 : (.methodLink RX12 324 yX12_isWay : Cond) ∈ wsX12_apart := rl_wsX12_apart_r1 _ (List.mem_of_getElem? (i := 9) rfl)
theorem mw_X12_apart__11 : (.static yX12_isWay : Cond) ∈ wsX12_apart := rl_wsX12_apart_r1 _ (List.mem_of_getElem? (i := 10) rfl)
theorem mw_X12_apart__12 : (.initialized RX12 : Cond) ∈ wsX12_apart := rl_wsX12_apart_r1 _ (List.mem_of_getElem? (i := 11) rfl)
theorem mw_X12_apart__13 : (.code yX12_isWay cX12_isWay 1 (some .boolean) : Cond) ∈ wsX12_apart := rl_wsX12_apart_r1 _ (List.mem_of_getElem? (i := 12) rfl)
theorem mw_X12_apart__14 : (.methodLink RX12 237 yX12_isIn : Cond) ∈ wsX12_apart := rl_wsX12_apart_r1 _ (List.mem_of_getElem? (i := 13) rfl)
theorem mw_X12_apart__15 : (.static yX12_isIn : Cond) ∈ wsX12_apart := rl_wsX12_apart_r1 _ (List.mem_of_getElem? (i := 14) rfl)
theorem mw_X12_apart__16 : (.code yX12_isIn cX12_isIn 3 (some .boolean) : Cond) ∈ wsX12_apart := rl_wsX12_apart_r1 _ (List.mem_of_getElem? (i := 15) rfl)
theorem mw_X12_apart__17 : (.methodLink RX12 304 yX12_turnsAs : Cond) ∈ wsX12_apart := rl_wsX12_apart_r1 _ (List.mem_of_getElem? (i := 16) rfl)
theorem mw_X12_apart__18 : (.instanceMethod yX12_turnsAs : Cond) ∈ wsX12_apart := rl_wsX12_apart_r1 _ (List.mem_of_getElem? (i := 17) rfl)
theorem mw_X12_apart__19 : (.selects RX12 yX12_turnsAs yX12_turnsAs : Cond) ∈ wsX12_apart := rl_wsX12_apart_r1 _ (List.mem_of_getElem? (i := 18) rfl)
theorem mw_X12_apart__20 : (.code yX12_turnsAs cX12_turnsAs 2 none : Cond) ∈ wsX12_apart := rl_wsX12_apart_r1 _ (List.mem_of_getElem? (i := 19) rfl)
theorem mw_X12_apart__21 : (.fieldLink RX12 71 "BallPotsModel" "turn" "[I" : Cond) ∈ wsX12_apart := rl_wsX12_apart_r1 _ (List.mem_of_getElem? (i := 20) rfl)
theorem mw_X12_apart__22 : (.fieldLink RX12 59 "BallPotsModel" "order" "[I" : Cond) ∈ wsX12_apart := rl_wsX12_apart_r1 _ (List.mem_of_getElem? (i := 21) rfl)
theorem mw_X12_apart__23 : (.fieldLink RX12 74 "BallPotsModel" "look" "[I" : Cond) ∈ wsX12_apart := rl_wsX12_apart_r1 _ (List.mem_of_getElem? (i := 22) rfl)
theorem mw_X12_apart__24 : (.fieldLink RX12 62 "BallPotsModel" "arranged" "[I" : Cond) ∈ wsX12_apart := rl_wsX12_apart_r1 _ (List.mem_of_getElem? (i := 23) rfl)
theorem mw_X12_apart__25 : (.methodLink RX12 362 yX12_layApart : Cond) ∈ wsX12_apart := rl_wsX12_apart_r2 _ (List.mem_of_getElem? (i := 0) rfl)
theorem mw_X12_apart__26 : (.instanceMethod yX12_layApart : Cond) ∈ wsX12_apart := rl_wsX12_apart_r2 _ (List.mem_of_getElem? (i := 1) rfl)
theorem mw_X12_apart__27 : (.selects RX12 yX12_layApart yX12_layApart : Cond) ∈ wsX12_apart := rl_wsX12_apart_r2 _ (List.mem_of_getElem? (i := 2) rfl)
theorem mw_X12_apart__28 : (.code yX12_layApart cX12_layApart 13 none : Cond) ∈ wsX12_apart := rl_wsX12_apart_r2 _ (List.mem_of_getElem? (i := 3) rfl)
theorem mw_X12_apart__29 : (.fieldLink RX12 105 "BallPotsModel" "pairs" "[J" : Cond) ∈ wsX12_apart := rl_wsX12_apart_r2 _ (List.mem_of_getElem? (i := 4) rfl)
theorem mw_X12_apart__30 : (.fieldLink RX12 185 "BallPotsModel" "groups" "I" : Cond) ∈ wsX12_apart := rl_wsX12_apart_r2 _ (List.mem_of_getElem? (i := 5) rfl)
theorem mw_X12_apart__31 : (.methodLink RX12 307 yX12_layWeights : Cond) ∈ wsX12_apart := rl_wsX12_apart_r2 _ (List.mem_of_getElem? (i := 6) rfl)
theorem mw_X12_apart__32 : (.instanceMethod yX12_layWeights : Cond) ∈ wsX12_apart := rl_wsX12_apart_r2 _ (List.mem_of_getElem? (i := 7) rfl)
theorem mw_X12_apart__33 : (.selects RX12 yX12_layWeights yX12_layWeights : Cond) ∈ wsX12_apart := rl_wsX12_apart_r2 _ (List.mem_of_getElem? (i := 8) rfl)
theorem mw_X12_apart__34 : (.code yX12_layWeights cX12_layWeights 10 none : Cond) ∈ wsX12_apart := rl_wsX12_apart_r2 _ (List.mem_of_getElem? (i := 9) rfl)
theorem mw_X12_apart__35 : (.fieldLink RX12 102 "BallPotsModel" "laid" "I" : Cond) ∈ wsX12_apart := rl_wsX12_apart_r2 _ (List.mem_of_getElem? (i := 10) rfl)
theorem mw_X12_apart__36 : (.fieldLink RX12 234 "BallPotsModel" "out" "I" : Cond) ∈ wsX12_apart := rl_wsX12_apart_r2 _ (List.mem_of_getElem? (i := 11) rfl)
theorem mw_X12_apart__37 : (.fieldLink RX12 248 "BallPotsModel" "draws" "I" : Cond) ∈ wsX12_apart := rl_wsX12_apart_r2 _ (List.mem_of_getElem? (i := 12) rfl)
theorem mw_X12_apart__38 : (.fieldLink RX12 99 "BallPotsModel" "weight" "[J" : Cond) ∈ wsX12_apart := rl_wsX12_apart_r2 _ (List.mem_of_getElem? (i := 13) rfl)
theorem mw_X12_apart__39 : (.fieldLink RX12 47 "BallPotsModel" "breaks" "[I" : Cond) ∈ wsX12_apart := rl_wsX12_apart_r2 _ (List.mem_of_getElem? (i := 14) rfl)
theorem mw_X12_apart__40 : (.fieldLink RX12 77 "BallPotsModel" "level" "[I" : Cond) ∈ wsX12_apart := rl_wsX12_apart_r2 _ (List.mem_of_getElem? (i := 15) rfl)
theorem mw_X12_apart__41 : (.fieldLink RX12 188 "BallPotsModel" "pots" "I" : Cond) ∈ wsX12_apart := rl_wsX12_apart_r2 _ (List.mem_of_getElem? (i := 16) rfl)
theorem mw_X12_apart__42 : (.fieldLink RX12 83 "BallPotsModel" "ways" "[J" : Cond) ∈ wsX12_apart := rl_wsX12_apart_r2 _ (List.mem_of_getElem? (i := 17) rfl)
theorem mw_X12_apart__43 : (.fieldLink RX12 245 "BallPotsModel" "ranks" "I" : Cond) ∈ wsX12_apart := rl_wsX12_apart_r2 _ (List.mem_of_getElem? (i := 18) rfl)
theorem mw_X12_apart__44 : (.fieldLink RX12 288 "BallPotsModel" "parts" "I" : Cond) ∈ wsX12_apart := rl_wsX12_apart_r2 _ (List.mem_of_getElem? (i := 19) rfl)
theorem mw_X12_apart__45 : (.fieldLink RX12 87 "BallPotsModel" "indexOf" "[I" : Cond) ∈ wsX12_apart := rl_wsX12_apart_r2 _ (List.mem_of_getElem? (i := 20) rfl)
theorem mw_X12_apart__46 : (.methodLink RX12 311 yX12_layMasks : Cond) ∈ wsX12_apart := rl_wsX12_apart_r2 _ (List.mem_of_getElem? (i := 21) rfl)
theorem mw_X12_apart__47 : (.instanceMethod yX12_layMasks : Cond) ∈ wsX12_apart := rl_wsX12_apart_r2 _ (List.mem_of_getElem? (i := 22) rfl)
theorem mw_X12_apart__48 : (.selects RX12 yX12_layMasks yX12_layMasks : Cond) ∈ wsX12_apart := rl_wsX12_apart_r2 _ (List.mem_of_getElem? (i := 23) rfl)
theorem mw_X12_apart__49 : (.code yX12_layMasks cX12_layMasks 6 none : Cond) ∈ wsX12_apart := rl_wsX12_apart_r3 _ (List.mem_of_getElem? (i := 0) rfl)
theorem mw_X12_apart__50 : (.fieldLink RX12 80 "BallPotsModel" "mask" "[I" : Cond) ∈ wsX12_apart := rl_wsX12_apart_r3 _ (List.mem_of_getElem? (i := 1) rfl)
theorem mw_X12_apart__51 : (.fieldLink RX12 90 "BallPotsModel" "having" "[I" : Cond) ∈ wsX12_apart := rl_wsX12_apart_r3 _ (List.mem_of_getElem? (i := 2) rfl)
theorem mw_X12_apart__52 : (.fieldLink RX12 44 "BallPotsModel" "row" "[I" : Cond) ∈ wsX12_apart := rl_wsX12_apart_r3 _ (List.mem_of_getElem? (i := 3) rfl)
theorem mw_X12_apart__53 : (.fieldLink RX12 93 "BallPotsModel" "power" "[I" : Cond) ∈ wsX12_apart := rl_wsX12_apart_r3 _ (List.mem_of_getElem? (i := 4) rfl)
theorem mw_X12_apart__54 : (.methodLink RX12 254 yX12_rankIn : Cond) ∈ wsX12_apart := rl_wsX12_apart_r3 _ (List.mem_of_getElem? (i := 5) rfl)
theorem mw_X12_apart__55 : (.instanceMethod yX12_rankIn : Cond) ∈ wsX12_apart := rl_wsX12_apart_r3 _ (List.mem_of_getElem? (i := 6) rfl)
theorem mw_X12_apart__56 : (.selects RX12 yX12_rankIn yX12_rankIn : Cond) ∈ wsX12_apart := rl_wsX12_apart_r3 _ (List.mem_of_getElem? (i := 7) rfl)
theorem mw_X12_apart__57 : (.code yX12_rankIn cX12_rankIn 5 (some .int) : Cond) ∈ wsX12_apart := rl_wsX12_apart_r3 _ (List.mem_of_getElem? (i := 8) rfl)
theorem mw_X12_apart__58 : (.methodLink RX12 275 yX12_isAsPlaced : Cond) ∈ wsX12_apart := rl_wsX12_apart_r3 _ (List.mem_of_getElem? (i := 9) rfl)
theorem mw_X12_apart__59 : (.instanceMethod yX12_isAsPlaced : Cond) ∈ wsX12_apart := rl_wsX12_apart_r3 _ (List.mem_of_getElem? (i := 10) rfl)
theorem mw_X12_apart__60 : (.selects RX12 yX12_isAsPlaced yX12_isAsPlaced : Cond) ∈ wsX12_apart := rl_wsX12_apart_r3 _ (List.mem_of_getElem? (i := 11) rfl)
theorem mw_X12_apart__61 : (.code yX12_isAsPlaced cX12_isAsPlaced 4 (some .boolean) : Cond) ∈ wsX12_apart := rl_wsX12_apart_r3 _ (List.mem_of_getElem? (i := 12) rfl)
theorem mw_X12_apart__62 : (.fieldLink RX12 51 "BallPotsModel" "groupOf" "[B" : Cond) ∈ wsX12_apart := rl_wsX12_apart_r3 _ (List.mem_of_getElem? (i := 13) rfl)
theorem mw_X12_apart__63 : (.fieldLink RX12 65 "BallPotsModel" "ballOf" "[I" : Cond) ∈ wsX12_apart := rl_wsX12_apart_r3 _ (List.mem_of_getElem? (i := 14) rfl)
theorem mw_X12_apart__64 : (.fieldLink RX12 68 "BallPotsModel" "groupGot" "[I" : Cond) ∈ wsX12_apart := rl_wsX12_apart_r3 _ (List.mem_of_getElem? (i := 15) rfl)
theorem mw_X12_apart__65 : (.methodLink RX12 314 yX12_placedPart : Cond) ∈ wsX12_apart := rl_wsX12_apart_r3 _ (List.mem_of_getElem? (i := 16) rfl)
theorem mw_X12_apart__66 : (.instanceMethod yX12_placedPart : Cond) ∈ wsX12_apart := rl_wsX12_apart_r3 _ (List.mem_of_getElem? (i := 17) rfl)
theorem mw_X12_apart__67 : (.selects RX12 yX12_placedPart yX12_placedPart : Cond) ∈ wsX12_apart := rl_wsX12_apart_r3 _ (List.mem_of_getElem? (i := 18) rfl)
theorem mw_X12_apart__68 : (.code yX12_placedPart cX12_placedPart 5 (some .int) : Cond) ∈ wsX12_apart := rl_wsX12_apart_r3 _ (List.mem_of_getElem? (i := 19) rfl)
theorem mw_X12_apart__69 : (.methodLink RX12 317 yX12_rankOf : Cond) ∈ wsX12_apart := rl_wsX12_apart_r3 _ (List.mem_of_getElem? (i := 20) rfl)
theorem mw_X12_apart__70 : (.instanceMethod yX12_rankOf : Cond) ∈ wsX12_apart := rl_wsX12_apart_r3 _ (List.mem_of_getElem? (i := 21) rfl)
theorem mw_X12_apart__71 : (.selects RX12 yX12_rankOf yX12_rankOf : Cond) ∈ wsX12_apart := rl_wsX12_apart_r3 _ (List.mem_of_getElem? (i := 22) rfl)
theorem mw_X12_apart__72 : (.code yX12_rankOf cX12_rankOf 4 (some .int) : Cond) ∈ wsX12_apart := rl_wsX12_apart_r3 _ (List.mem_of_getElem? (i := 23) rfl)
theorem mw_X12_apart__73 : (.methodLink RX12 294 yX12_agreeing : Cond) ∈ wsX12_apart := rl_wsX12_apart_r4 _ (List.mem_of_getElem? (i := 0) rfl)
theorem mw_X12_apart__74 : (.instanceMethod yX12_agreeing : Cond) ∈ wsX12_apart := rl_wsX12_apart_r4 _ (List.mem_of_getElem? (i := 1) rfl)
theorem mw_X12_apart__75 : (.selects RX12 yX12_agreeing yX12_agreeing : Cond) ∈ wsX12_apart := rl_wsX12_apart_r4 _ (List.mem_of_getElem? (i := 2) rfl)
theorem mw_X12_apart__76 : (.code yX12_agreeing cX12_agreeing 5 (some .int) : Cond) ∈ wsX12_apart := rl_wsX12_apart_r4 _ (List.mem_of_getElem? (i := 3) rfl)
theorem mw_X12_apart__77 : (.methodLink RX12 291 yX12_digit : Cond) ∈ wsX12_apart := rl_wsX12_apart_r4 _ (List.mem_of_getElem? (i := 4) rfl)
theorem mw_X12_apart__78 : (.instanceMethod yX12_digit : Cond) ∈ wsX12_apart := rl_wsX12_apart_r4 _ (List.mem_of_getElem? (i := 5) rfl)
theorem mw_X12_apart__79 : (.selects RX12 yX12_digit yX12_digit : Cond) ∈ wsX12_apart := rl_wsX12_apart_r4 _ (List.mem_of_getElem? (i := 6) rfl)
theorem mw_X12_apart__80 : (.code yX12_digit cX12_digit 3 (some .int) : Cond) ∈ wsX12_apart := rl_wsX12_apart_r4 _ (List.mem_of_getElem? (i := 7) rfl)
theorem mw_X12_apart__81 : (.methodLink RX12 320 yX12_pot : Cond) ∈ wsX12_apart := rl_wsX12_apart_r4 _ (List.mem_of_getElem? (i := 8) rfl)
theorem mw_X12_apart__82 : (.instanceMethod yX12_pot : Cond) ∈ wsX12_apart := rl_wsX12_apart_r4 _ (List.mem_of_getElem? (i := 9) rfl)
theorem mw_X12_apart__83 : (.selects RX12 yX12_pot yX12_pot : Cond) ∈ wsX12_apart := rl_wsX12_apart_r4 _ (List.mem_of_getElem? (i := 10) rfl)
theorem mw_X12_apart__84 : (.code yX12_pot cX12_pot 9 none : Cond) ∈ wsX12_apart := rl_wsX12_apart_r4 _ (List.mem_of_getElem? (i := 11) rfl)
theorem mw_X12_apart__85 : (.fieldLink RX12 96 "BallPotsModel" "part" "[J" : Cond) ∈ wsX12_apart := rl_wsX12_apart_r4 _ (List.mem_of_getElem? (i := 12) rfl)
theorem mw_X12_apart__86 : (.methodLink RX12 300 yX12_comes : Cond) ∈ wsX12_apart := rl_wsX12_apart_r4 _ (List.mem_of_getElem? (i := 13) rfl)
theorem mw_X12_apart__87 : (.instanceMethod yX12_comes : Cond) ∈ wsX12_apart := rl_wsX12_apart_r4 _ (List.mem_of_getElem? (i := 14) rfl)
theorem mw_X12_apart__88 : (.selects RX12 yX12_comes yX12_comes : Cond) ∈ wsX12_apart := rl_wsX12_apart_r4 _ (List.mem_of_getElem? (i := 15) rfl)
theorem mw_X12_apart__89 : (.code yX12_comes cX12_comes 10 none : Cond) ∈ wsX12_apart := rl_wsX12_apart_r4 _ (List.mem_of_getElem? (i := 16) rfl)
theorem mw_X12_apart__90 : (.methodLink RX12 297 yX12_share : Cond) ∈ wsX12_apart := rl_wsX12_apart_r4 _ (List.mem_of_getElem? (i := 17) rfl)
theorem mw_X12_apart__91 : (.static yX12_share : Cond) ∈ wsX12_apart := rl_wsX12_apart_r4 _ (List.mem_of_getElem? (i := 18) rfl)
theorem mw_X12_apart__92 : (.code yX12_share cX12_share 1 (some .int) : Cond) ∈ wsX12_apart := rl_wsX12_apart_r4 _ (List.mem_of_getElem? (i := 19) rfl)
theorem mw_X12_apart__93 : (.methodLink RX12 337 yX12_allRows : Cond) ∈ wsX12_apart := rl_wsX12_apart_r4 _ (List.mem_of_getElem? (i := 20) rfl)
theorem mw_X12_apart__94 : (.instanceMethod yX12_allRows : Cond) ∈ wsX12_apart := rl_wsX12_apart_r4 _ (List.mem_of_getElem? (i := 21) rfl)
theorem mw_X12_apart__95 : (.selects RX12 yX12_allRows yX12_allRows : Cond) ∈ wsX12_apart := rl_wsX12_apart_r4 _ (List.mem_of_getElem? (i := 22) rfl)
theorem mw_X12_apart__96 : (.code yX12_allRows cX12_allRows 4 (some .long) : Cond) ∈ wsX12_apart := rl_wsX12_apart_r4 _ (List.mem_of_getElem? (i := 23) rfl)
theorem mw_X12_apart__97 : (.methodLink RX12 241 yX12_teams : Cond) ∈ wsX12_apart := rl_wsX12_apart_r5 _ (List.mem_of_getElem? (i := 0) rfl)
theorem mw_X12_apart__98 : (.instanceMethod yX12_teams : Cond) ∈ wsX12_apart := rl_wsX12_apart_r5 _ (List.mem_of_getElem? (i := 1) rfl)
theorem mw_X12_apart__99 : (.selects RX12 yX12_teams yX12_teams : Cond) ∈ wsX12_apart := rl_wsX12_apart_r5 _ (List.mem_of_getElem? (i := 2) rfl)
theorem mw_X12_apart__100 : (.code yX12_teams cX12_teams 1 (some .int) : Cond) ∈ wsX12_apart := rl_wsX12_apart_r5 _ (List.mem_of_getElem? (i := 3) rfl)
theorem mw_X12_apart__101 : (.methodLink RX12 333 yX12_pairRows : Cond) ∈ wsX12_apart := rl_wsX12_apart_r5 _ (List.mem_of_getElem? (i := 4) rfl)
theorem mw_X12_apart__102 : (.instanceMethod yX12_pairRows : Cond) ∈ wsX12_apart := rl_wsX12_apart_r5 _ (List.mem_of_getElem? (i := 5) rfl)
theorem mw_X12_apart__103 : (.selects RX12 yX12_pairRows yX12_pairRows : Cond) ∈ wsX12_apart := rl_wsX12_apart_r5 _ (List.mem_of_getElem? (i := 6) rfl)
theorem mw_X12_apart__104 : (.code yX12_pairRows cX12_pairRows 6 (some .long) : Cond) ∈ wsX12_apart := rl_wsX12_apart_r5 _ (List.mem_of_getElem? (i := 7) rfl)
theorem mw_X12_arrange__1 : (.fieldLink RX12 132 "BallPotsModel" "thrown" "I" : Cond) ∈ wsX12_arrange := List.mem_of_getElem? (i := 1) rfl
theorem mw_X12_arrange__2 : (.fieldLink RX12 185 "BallPotsModel" "groups" "I" : Cond) ∈ wsX12_arrange := List.mem_of_getElem? (i := 2) rfl
theorem mw_X12_arrange__3 : (.fieldLink RX12 62 "BallPotsModel" "arranged" "[I" : Cond) ∈ wsX12_arrange := List.mem_of_getElem? (i := 3) rfl
theorem mw_X12_arrange__4 : (.fieldLink RX12 234 "BallPotsModel" "out" "I" : Cond) ∈ wsX12_arrange := List.mem_of_getElem? (i := 4) rfl
theorem mw_X12_arrange__5 : (.fieldLink RX12 102 "BallPotsModel" "laid" "I" : Cond) ∈ wsX12_arrange := List.mem_of_getElem? (i := 5) rfl
theorem mw_X12_arrange__6 : (.methodLink RX12 272 yX12_isOnce : Cond) ∈ wsX12_arrange := List.mem_of_getElem? (i := 6) rfl
theorem mw_X12_arrange__7 : (.static yX12_isOnce : Cond) ∈ wsX12_arrange := List.mem_of_getElem? (i := 7) rfl
theorem mw_X12_arrange__8 : (.initialized RX12 : Cond) ∈ wsX12_arrange := List.mem_of_getElem? (i := 8) rfl
theorem mw_X12_arrange__9 : (.code yX12_isOnce cX12_isOnce 4 (some .boolean) : Cond) ∈ wsX12_arrange := List.mem_of_getElem? (i := 9) rfl
theorem mw_X12_ball__1 : (.fieldLink RX12 132 "BallPotsModel" "thrown" "I" : Cond) ∈ wsX12_ball := rl_wsX12_ball_r1 _ (List.mem_of_getElem? (i := 0) rfl)
theorem mw_X12_ball__2 : (.fieldLink RX12 251 "BallPotsModel" "lawful" "I" : Cond) ∈ wsX12_ball := rl_wsX12_ball_r1 _ (List.mem_of_getElem? (i := 1) rfl)
theorem mw_X12_ball__3 : (.fieldLink RX12 234 "BallPotsModel" "out" "I" : Cond) ∈ wsX12_ball := rl_wsX12_ball_r1 _ (List.mem_of_getElem? (i := 2) rfl)
theorem mw_X12_ball__4 : (.fieldLink RX12 185 "BallPotsModel" "groups" "I" : Cond) ∈ wsX12_ball := rl_wsX12_ball_r1 _ (List.mem_of_getElem? (i := 3) rfl)
theorem mw_X12_ball__5 : (.fieldLink RX12 59 "BallPotsModel" "order" "[I" : Cond) ∈ wsX12_ball := rl_wsX12_ball_r1 _ (List.mem_of_getElem? (i := 4) rfl)
theorem mw_X12_ball__6 : (.fieldLink RX12 62 "BallPotsModel" "arranged" "[I" : Cond) ∈ wsX12_ball := rl_wsX12_ball_r1 _ (List.mem_of_getElem? (i := 5) rfl)
theorem mw_X12_ball__7 : (.fieldLink RX12 65 "BallPotsModel" "ballOf" "[I" : Cond) ∈ wsX12_ball := rl_wsX12_ball_r1 _ (List.mem_of_getElem? (i := 6) rfl)
theorem mw_X12_ball__8 : (.fieldLink RX12 68 "BallPotsModel" "groupGot" "[I" : Cond) ∈ wsX12_ball := rl_wsX12_ball_r1 _ (List.mem_of_getElem? (i := 7) rfl)
theorem mw_X12_ball__9 : (.fieldLink RX12 102 "BallPotsModel" "laid" "I" : Cond) ∈ wsX12_ball := rl_wsX12_ball_r1 _ (List.mem_of_getElem? (i := 8) rfl)
theorem mw_X12_ball__10 : (.methodLink RX12 269 yX12_isTeam : Cond) ∈ wsX12_ball := rl_wsX12_ball_r1 _ (List.mem_of_getElem? (i := 9) rfl)
theorem mw_X12_ball__11 : (.instanceMethod yX12_isTeam : Cond) ∈ wsX12_ball := rl_wsX12_ball_r1 _ (List.mem_of_getElem? (i := 10) rfl)
theorem mw_X12_ball__12 : (.selects RX12 yX12_isTeam yX12_isTeam : Cond) ∈ wsX12_ball := rl_wsX12_ball_r1 _ (List.mem_of_getElem? (i := 11) rfl)
theorem mw_X12_ball__13 : (.initialized RX12 : Cond) ∈ wsX12_ball := rl_wsX12_ball_r1 _ (List.mem_of_getElem? (i := 12) rfl)
theorem mw_X12_ball__14 : (.code yX12_isTeam cX12_isTeam 2 (some .boolean) : Cond) ∈ wsX12_ball := rl_wsX12_ball_r1 _ (List.mem_of_getElem? (i := 13) rfl)
theorem mw_X12_ball__15 : (.methodLink RX12 241 yX12_teams : Cond) ∈ wsX12_ball := rl_wsX12_ball_r1 _ (List.mem_of_getElem? (i := 14) rfl)
theorem mw_X12_ball__16 : (.instanceMethod yX12_teams : Cond) ∈ wsX12_ball := rl_wsX12_ball_r1 _ (List.mem_of_getElem? (i := 15) rfl)
theorem mw_X12_ball__17 : (.selects RX12 yX12_teams yX12_teams : Cond) ∈ wsX12_ball := rl_wsX12_ball_r1 _ (List.mem_of_getElem? (i := 16) rfl)
theorem mw_X12_ball__18 : (.code yX12_teams cX12_teams 1 (some .int) : Cond) ∈ wsX12_ball := rl_wsX12_ball_r1 _ (List.mem_of_getElem? (i := 17) rfl)
theorem mw_X12_ball__19 : (.fieldLink RX12 188 "BallPotsModel" "pots" "I" : Cond) ∈ wsX12_ball := rl_wsX12_ball_r1 _ (List.mem_of_getElem? (i := 18) rfl)
theorem mw_X12_ball__20 : (.methodLink RX12 278 yX12_placedIn : Cond) ∈ wsX12_ball := rl_wsX12_ball_r1 _ (List.mem_of_getElem? (i := 19) rfl)
theorem mw_X12_ball__21 : (.instanceMethod yX12_placedIn : Cond) ∈ wsX12_ball := rl_wsX12_ball_r1 _ (List.mem_of_getElem? (i := 20) rfl)
theorem mw_X12_ball__22 : (.selects RX12 yX12_placedIn yX12_placedIn : Cond) ∈ wsX12_ball := rl_wsX12_ball_r1 _ (List.mem_of_getElem? (i := 21) rfl)
theorem mw_X12_ball__23 : (.code yX12_placedIn cX12_placedIn 4 (some .int) : Cond) ∈ wsX12_ball := rl_wsX12_ball_r1 _ (List.mem_of_getElem? (i := 22) rfl)
theorem mw_X12_ball__24 : (.methodLink RX12 281 yX12_shut : Cond) ∈ wsX12_ball := rl_wsX12_ball_r1 _ (List.mem_of_getElem? (i := 23) rfl)
theorem mw_X12_ball__25 : (.instanceMethod yX12_shut : Cond) ∈ wsX12_ball := rl_wsX12_ball_r2 _ (List.mem_of_getElem? (i := 0) rfl)
theorem mw_X12_ball__26 : (.selects RX12 yX12_shut yX12_shut : Cond) ∈ wsX12_ball := rl_wsX12_ball_r2 _ (List.mem_of_getElem? (i := 1) rfl)
theorem mw_X12_ball__27 : (.code yX12_shut cX12_shut 5 (some .int) : Cond) ∈ wsX12_ball := rl_wsX12_ball_r2 _ (List.mem_of_getElem? (i := 2) rfl)
theorem mw_X12_ball__28 : (.fieldLink RX12 248 "BallPotsModel" "draws" "I" : Cond) ∈ wsX12_ball := rl_wsX12_ball_r2 _ (List.mem_of_getElem? (i := 3) rfl)
theorem mw_X12_ball__29 : (.fieldLink RX12 47 "BallPotsModel" "breaks" "[I" : Cond) ∈ wsX12_ball := rl_wsX12_ball_r2 _ (List.mem_of_getElem? (i := 4) rfl)
theorem mw_X12_ball__30 : (.fieldLink RX12 51 "BallPotsModel" "groupOf" "[B" : Cond) ∈ wsX12_ball := rl_wsX12_ball_r2 _ (List.mem_of_getElem? (i := 5) rfl)
theorem mw_X12_ball__31 : (.methodLink RX12 275 yX12_isAsPlaced : Cond) ∈ wsX12_ball := rl_wsX12_ball_r2 _ (List.mem_of_getElem? (i := 6) rfl)
theorem mw_X12_ball__32 : (.instanceMethod yX12_isAsPlaced : Cond) ∈ wsX12_ball := rl_wsX12_ball_r2 _ (List.mem_of_getElem? (i := 7) rfl)
theorem mw_X12_ball__33 : (.selects RX12 yX12_isAsPlaced yX12_isAsPlaced : Cond) ∈ wsX12_ball := rl_wsX12_ball_r2 _ (List.mem_of_getElem? (i := 8) rfl)
theorem mw_X12_ball__34 : (.code yX12_isAsPlaced cX12_isAsPlaced 4 (some .boolean) : Cond) ∈ wsX12_ball := rl_wsX12_ball_r2 _ (List.mem_of_getElem? (i := 9) rfl)
theorem mw_X12_barLine__1 : (.fieldLink RX12 182 "BallPotsModel" "barsRead" "I" : Cond) ∈ wsX12_barLine := rl_wsX12_barLine_r1 _ (List.mem_of_getElem? (i := 0) rfl)
theorem mw_X12_barLine__2 : (.fieldLink RX12 161 "BallPotsModel" "which" "I" : Cond) ∈ wsX12_barLine := rl_wsX12_barLine_r1 _ (List.mem_of_getElem? (i := 1) rfl)
theorem mw_X12_barLine__3 : (.fieldLink RX12 150 "BallPotsModel" "kind" "I" : Cond) ∈ wsX12_barLine := rl_wsX12_barLine_r1 _ (List.mem_of_getElem? (i := 2) rfl)
theorem mw_X12_barLine__4 : (.fieldLink RX12 170 "BallPotsModel" "groupsRead" "I" : Cond) ∈ wsX12_barLine := rl_wsX12_barLine_r1 _ (List.mem_of_getElem? (i := 3) rfl)
theorem mw_X12_barLine__5 : (.fieldLink RX12 41 "BallPotsModel" "barRead" "[I" : Cond) ∈ wsX12_barLine := rl_wsX12_barLine_r1 _ (List.mem_of_getElem? (i := 4) rfl)
theorem mw_X12_barLine__6 : (.methodLink RX12 191 yX12_wrong : Cond) ∈ wsX12_barLine := rl_wsX12_barLine_r1 _ (List.mem_of_getElem? (i := 5) rfl)
theorem mw_X12_barLine__7 : (.instanceMethod yX12_wrong : Cond) ∈ wsX12_barLine := rl_wsX12_barLine_r1 _ (List.mem_of_getElem? (i := 6) rfl)
theorem mw_X12_barLine__8 : (.selects RX12 yX12_wrong yX12_wrong : Cond) ∈ wsX12_barLine := rl_wsX12_barLine_r1 _ (List.mem_of_getElem? (i := 7) rfl)
theorem mw_X12_barLine__9 : (.initialized RX12 : Cond) ∈ wsX12_barLine := rl_wsX12_barLine_r1 _ (List.mem_of_getElem? (i := 8) rfl)
theorem mw_X12_barLine__10 : (.code yX12_wrong cX12_wrong 2 (some .boolean) : Cond) ∈ wsX12_barLine := rl_wsX12_barLine_r1 _ (List.mem_of_getElem? (i := 9) rfl)
theorem mw_X12_barLine__11 : (.fieldLink RX12 138 "BallPotsModel" "fault" "I" : Cond) ∈ wsX12_barLine := rl_wsX12_barLine_r1 _ (List.mem_of_getElem? (i := 10) rfl)
theorem mw_X12_barLine__12 : (.fieldLink RX12 141 "BallPotsModel" "place" "I" : Cond) ∈ wsX12_barLine := rl_wsX12_barLine_r1 _ (List.mem_of_getElem? (i := 11) rfl)
theorem mw_X12_barLine__13 : (.fieldLink RX12 16 "BallPotsModel" "faultPlace" "I" : Cond) ∈ wsX12_barLine := rl_wsX12_barLine_r1 _ (List.mem_of_getElem? (i := 12) rfl)
theorem mw_X12_barLine__14 : (.methodLink RX12 194 yX12_take : Cond) ∈ wsX12_barLine := rl_wsX12_barLine_r1 _ (List.mem_of_getElem? (i := 13) rfl)
theorem mw_X12_barLine__15 : (.instanceMethod yX12_take : Cond) ∈ wsX12_barLine := rl_wsX12_barLine_r1 _ (List.mem_of_getElem? (i := 14) rfl)
theorem mw_X12_barLine__16 : (.selects RX12 yX12_take yX12_take : Cond) ∈ wsX12_barLine := rl_wsX12_barLine_r1 _ (List.mem_of_getElem? (i := 15) rfl)
theorem mw_X12_barLine__17 : (.code yX12_take cX12_take 1 none : Cond) ∈ wsX12_barLine := rl_wsX12_barLine_r1 _ (List.mem_of_getElem? (i := 16) rfl)
theorem mw_X12_barLine__18 : (.fieldLink RX12 147 "BallPotsModel" "next" "I" : Cond) ∈ wsX12_barLine := rl_wsX12_barLine_r1 _ (List.mem_of_getElem? (i := 17) rfl)
theorem mw_X12_barLine__19 : (.fieldLink RX12 144 "BallPotsModel" "stop" "I" : Cond) ∈ wsX12_barLine := rl_wsX12_barLine_r1 _ (List.mem_of_getElem? (i := 18) rfl)
theorem mw_X12_barLine__20 : (.fieldLink RX12 7 "BallPotsModel" "tape" "[I" : Cond) ∈ wsX12_barLine := rl_wsX12_barLine_r1 _ (List.mem_of_getElem? (i := 19) rfl)
theorem mw_X12_barLine__21 : (.methodLink RX12 153 yX12_isSmall : Cond) ∈ wsX12_barLine := rl_wsX12_barLine_r1 _ (List.mem_of_getElem? (i := 20) rfl)
theorem mw_X12_barLine__22 : (.instanceMethod yX12_isSmall : Cond) ∈ wsX12_barLine := rl_wsX12_barLine_r1 _ (List.mem_of_getElem? (i := 21) rfl)
theorem mw_X12_barLine__23 : (.selects RX12 yX12_isSmall yX12_isSmall : Cond) ∈ wsX12_barLine := rl_wsX12_barLine_r1 _ (List.mem_of_getElem? (i := 22) rfl)
theorem mw_X12_barLine__24 : (.code yX12_isSmall cX12_isSmall 2 (some .boolean) : Cond) ∈ wsX12_barLine := rl_wsX12_barLine_r1 _ (List.mem_of_getElem? (i := 23) rfl)
theorem mw_X12_barLine__25 : (.methodLink RX12 157 yX12_wordAt : Cond) ∈ wsX12_barLine := rl_wsX12_barLine_r2 _ (List.mem_of_getElem? (i := 0) rfl)
theorem mw_X12_barLine__26 : (.instanceMethod yX12_wordAt : Cond) ∈ wsX12_barLine := rl_wsX12_barLine_r2 _ (List.mem_of_getElem? (i := 1) rfl)
theorem mw_X12_barLine__27 : (.selects RX12 yX12_wordAt yX12_wordAt : Cond) ∈ wsX12_barLine := rl_wsX12_barLine_r2 _ (List.mem_of_getElem? (i := 2) rfl)
theorem mw_X12_barLine__28 : (.code yX12_wordAt cX12_wordAt 8 (some .int) : Cond) ∈ wsX12_barLine := rl_wsX12_barLine_r2 _ (List.mem_of_getElem? (i := 3) rfl)
theorem mw_X12_barLine__29 : (.fieldLink RX12 13 "BallPotsModel" "words" "[I" : Cond) ∈ wsX12_barLine := rl_wsX12_barLine_r2 _ (List.mem_of_getElem? (i := 4) rfl)
theorem mw_X12_barLine__30 : (.methodLink RX12 164 yX12_packed : Cond) ∈ wsX12_barLine := rl_wsX12_barLine_r2 _ (List.mem_of_getElem? (i := 5) rfl)
theorem mw_X12_barLine__31 : (.instanceMethod yX12_packed : Cond) ∈ wsX12_barLine := rl_wsX12_barLine_r2 _ (List.mem_of_getElem? (i := 6) rfl)
theorem mw_X12_barLine__32 : (.selects RX12 yX12_packed yX12_packed : Cond) ∈ wsX12_barLine := rl_wsX12_barLine_r2 _ (List.mem_of_getElem? (i := 7) rfl)
theorem mw_X12_barLine__33 : (.code yX12_packed cX12_packed 5 (some .int) : Cond) ∈ wsX12_barLine := rl_wsX12_barLine_r2 _ (List.mem_of_getElem? (i := 8) rfl)
theorem mw_X12_barLine__34 : (.methodLink RX12 167 yX12_isDigit : Cond) ∈ wsX12_barLine := rl_wsX12_barLine_r2 _ (List.mem_of_getElem? (i := 9) rfl)
theorem mw_X12_barLine__35 : (.instanceMethod yX12_isDigit : Cond) ∈ wsX12_barLine := rl_wsX12_barLine_r2 _ (List.mem_of_getElem? (i := 10) rfl)
theorem mw_X12_barLine__36 : (.selects RX12 yX12_isDigit yX12_isDigit : Cond) ∈ wsX12_barLine := rl_wsX12_barLine_r2 _ (List.mem_of_getElem? (i := 11) rfl)
theorem mw_X12_barLine__37 : (.code yX12_isDigit cX12_isDigit 2 (some .boolean) : Cond) ∈ wsX12_barLine := rl_wsX12_barLine_r2 _ (List.mem_of_getElem? (i := 12) rfl)
theorem mw_X12_barLine__38 : (.methodLink RX12 204 yX12_isNumber : Cond) ∈ wsX12_barLine := rl_wsX12_barLine_r2 _ (List.mem_of_getElem? (i := 13) rfl)
theorem mw_X12_barLine__39 : (.instanceMethod yX12_isNumber : Cond) ∈ wsX12_barLine := rl_wsX12_barLine_r2 _ (List.mem_of_getElem? (i := 14) rfl)
theorem mw_X12_barLine__40 : (.selects RX12 yX12_isNumber yX12_isNumber : Cond) ∈ wsX12_barLine := rl_wsX12_barLine_r2 _ (List.mem_of_getElem? (i := 15) rfl)
theorem mw_X12_barLine__41 : (.code yX12_isNumber cX12_isNumber 3 (some .boolean) : Cond) ∈ wsX12_barLine := rl_wsX12_barLine_r2 _ (List.mem_of_getElem? (i := 16) rfl)
theorem mw_X12_barLine__42 : (.methodLink RX12 201 yX12_markOf : Cond) ∈ wsX12_barLine := rl_wsX12_barLine_r2 _ (List.mem_of_getElem? (i := 17) rfl)
theorem mw_X12_barLine__43 : (.instanceMethod yX12_markOf : Cond) ∈ wsX12_barLine := rl_wsX12_barLine_r2 _ (List.mem_of_getElem? (i := 18) rfl)
theorem mw_X12_barLine__44 : (.selects RX12 yX12_markOf yX12_markOf : Cond) ∈ wsX12_barLine := rl_wsX12_barLine_r2 _ (List.mem_of_getElem? (i := 19) rfl)
theorem mw_X12_barLine__45 : (.code yX12_markOf cX12_markOf 3 (some .int) : Cond) ∈ wsX12_barLine := rl_wsX12_barLine_r2 _ (List.mem_of_getElem? (i := 20) rfl)
theorem mw_X12_barLine__46 : (.fieldLink RX12 179 "BallPotsModel" "marksRead" "I" : Cond) ∈ wsX12_barLine := rl_wsX12_barLine_r2 _ (List.mem_of_getElem? (i := 21) rfl)
theorem mw_X12_barLine__47 : (.fieldLink RX12 35 "BallPotsModel" "markRead" "[I" : Cond) ∈ wsX12_barLine := rl_wsX12_barLine_r2 _ (List.mem_of_getElem? (i := 22) rfl)
theorem mw_X12_barLine__48 : (.methodLink RX12 197 yX12_teamOf : Cond) ∈ wsX12_barLine := rl_wsX12_barLine_r2 _ (List.mem_of_getElem? (i := 23) rfl)
theorem mw_X12_barLine__49 : (.instanceMethod yX12_teamOf : Cond) ∈ wsX12_barLine := rl_wsX12_barLine_r3 _ (List.mem_of_getElem? (i := 0) rfl)
theorem mw_X12_barLine__50 : (.selects RX12 yX12_teamOf yX12_teamOf : Cond) ∈ wsX12_barLine := rl_wsX12_barLine_r3 _ (List.mem_of_getElem? (i := 1) rfl)
theorem mw_X12_barLine__51 : (.code yX12_teamOf cX12_teamOf 3 (some .int) : Cond) ∈ wsX12_barLine := rl_wsX12_barLine_r3 _ (List.mem_of_getElem? (i := 2) rfl)
theorem mw_X12_barLine__52 : (.fieldLink RX12 176 "BallPotsModel" "teamsRead" "I" : Cond) ∈ wsX12_barLine := rl_wsX12_barLine_r3 _ (List.mem_of_getElem? (i := 3) rfl)
theorem mw_X12_barLine__53 : (.fieldLink RX12 32 "BallPotsModel" "teamRead" "[I" : Cond) ∈ wsX12_barLine := rl_wsX12_barLine_r3 _ (List.mem_of_getElem? (i := 4) rfl)
theorem mw_X12_blame__1 : (.fieldLink RX12 132 "BallPotsModel" "thrown" "I" : Cond) ∈ wsX12_blame := rl_wsX12_blame_r1 _ (List.mem_of_getElem? (i := 0) rfl)
theorem mw_X12_blame__2 : (.fieldLink RX12 55 "BallPotsModel" "broken" "[Z" : Cond) ∈ wsX12_blame := rl_wsX12_blame_r1 _ (List.mem_of_getElem? (i := 1) rfl)
theorem mw_X12_blame__3 : (.fieldLink RX12 248 "BallPotsModel" "draws" "I" : Cond) ∈ wsX12_blame := rl_wsX12_blame_r1 _ (List.mem_of_getElem? (i := 2) rfl)
theorem mw_X12_blame__4 : (.fieldLink RX12 51 "BallPotsModel" "groupOf" "[B" : Cond) ∈ wsX12_blame := rl_wsX12_blame_r1 _ (List.mem_of_getElem? (i := 3) rfl)
theorem mw_X12_blame__5 : (.fieldLink RX12 65 "BallPotsModel" "ballOf" "[I" : Cond) ∈ wsX12_blame := rl_wsX12_blame_r1 _ (List.mem_of_getElem? (i := 4) rfl)
theorem mw_X12_blame__6 : (.fieldLink RX12 234 "BallPotsModel" "out" "I" : Cond) ∈ wsX12_blame := rl_wsX12_blame_r1 _ (List.mem_of_getElem? (i := 5) rfl)
theorem mw_X12_blame__7 : (.fieldLink RX12 47 "BallPotsModel" "breaks" "[I" : Cond) ∈ wsX12_blame := rl_wsX12_blame_r1 _ (List.mem_of_getElem? (i := 6) rfl)
theorem mw_X12_blame__8 : (.methodLink RX12 285 yX12_whyOf : Cond) ∈ wsX12_blame := rl_wsX12_blame_r1 _ (List.mem_of_getElem? (i := 7) rfl)
theorem mw_X12_blame__9 : (.instanceMethod yX12_whyOf : Cond) ∈ wsX12_blame := rl_wsX12_blame_r1 _ (List.mem_of_getElem? (i := 8) rfl)
theorem mw_X12_blame__10 : (.selects RX12 yX12_whyOf yX12_whyOf : Cond) ∈ wsX12_blame := rl_wsX12_blame_r1 _ (List.mem_of_getElem? (i := 9) rfl)
theorem mw_X12_blame__11 : (.initialized RX12 : Cond) ∈ wsX12_blame := rl_wsX12_blame_r1 _ (List.mem_of_getElem? (i := 10) rfl)
theorem mw_X12_blame__12 : (.code yX12_whyOf cX12_whyOf 3 (some .int) : Cond) ∈ wsX12_blame := rl_wsX12_blame_r1 _ (List.mem_of_getElem? (i := 11) rfl)
theorem mw_X12_blame__13 : (.fieldLink RX12 185 "BallPotsModel" "groups" "I" : Cond) ∈ wsX12_blame := rl_wsX12_blame_r1 _ (List.mem_of_getElem? (i := 12) rfl)
theorem mw_X12_blame__14 : (.fieldLink RX12 68 "BallPotsModel" "groupGot" "[I" : Cond) ∈ wsX12_blame := rl_wsX12_blame_r1 _ (List.mem_of_getElem? (i := 13) rfl)
theorem mw_X12_blame__15 : (.fieldLink RX12 62 "BallPotsModel" "arranged" "[I" : Cond) ∈ wsX12_blame := rl_wsX12_blame_r1 _ (List.mem_of_getElem? (i := 14) rfl)
theorem mw_X12_blame__16 : (.methodLink RX12 281 yX12_shut : Cond) ∈ wsX12_blame := rl_wsX12_blame_r1 _ (List.mem_of_getElem? (i := 15) rfl)
theorem mw_X12_blame__17 : (.instanceMethod yX12_shut : Cond) ∈ wsX12_blame := rl_wsX12_blame_r1 _ (List.mem_of_getElem? (i := 16) rfl)
theorem mw_X12_blame__18 : (.selects RX12 yX12_shut yX12_shut : Cond) ∈ wsX12_blame := rl_wsX12_blame_r1 _ (List.mem_of_getElem? (i := 17) rfl)
theorem mw_X12_blame__19 : (.code yX12_shut cX12_shut 5 (some .int) : Cond) ∈ wsX12_blame := rl_wsX12_blame_r1 _ (List.mem_of_getElem? (i := 18) rfl)
theorem mw_X12_blame__20 : (.methodLink RX12 275 yX12_isAsPlaced : Cond) ∈ wsX12_blame := rl_wsX12_blame_r1 _ (List.mem_of_getElem? (i := 19) rfl)
theorem mw_X12_blame__21 : (.instanceMethod yX12_isAsPlaced : Cond) ∈ wsX12_blame := rl_wsX12_blame_r1 _ (List.mem_of_getElem? (i := 20) rfl)
theorem mw_X12_blame__22 : (.selects RX12 yX12_isAsPlaced yX12_isAsPlaced : Cond) ∈ wsX12_blame := rl_wsX12_blame_r1 _ (List.mem_of_getElem? (i := 21) rfl)
theorem mw_X12_blame__23 : (.code yX12_isAsPlaced cX12_isAsPlaced 4 (some .boolean) : Cond) ∈ wsX12_blame := rl_wsX12_blame_r1 _ (List.mem_of_getElem? (i := 22) rfl)
theorem mw_X12_blame__24 : (.methodLink RX12 266 yX12_fewest : Cond) ∈ wsX12_blame := rl_wsX12_blame_r1 _ (List.mem_of_getElem? (i := 23) rfl)
theorem mw_X12_blame__25 : (.instanceMethod yX12_fewest : Cond) ∈ wsX12_blame := rl_wsX12_blame_r2 _ (List.mem_of_getElem? (i := 0) rfl)
theorem mw_X12_blame__26 : (.selects RX12 yX12_fewest yX12_fewest : Cond) ∈ wsX12_blame := rl_wsX12_blame_r2 _ (List.mem_of_getElem? (i := 1) rfl)
theorem mw_X12_blame__27 : (.code yX12_fewest cX12_fewest 5 (some .int) : Cond) ∈ wsX12_blame := rl_wsX12_blame_r2 _ (List.mem_of_getElem? (i := 2) rfl)
theorem mw_X12_blame__28 : (.fieldLink RX12 225 "BallPotsModel" "bars" "I" : Cond) ∈ wsX12_blame := rl_wsX12_blame_r2 _ (List.mem_of_getElem? (i := 3) rfl)
theorem mw_X12_blame__29 : (.methodLink RX12 263 yX12_many : Cond) ∈ wsX12_blame := rl_wsX12_blame_r2 _ (List.mem_of_getElem? (i := 4) rfl)
theorem mw_X12_blame__30 : (.static yX12_many : Cond) ∈ wsX12_blame := rl_wsX12_blame_r2 _ (List.mem_of_getElem? (i := 5) rfl)
theorem mw_X12_blame__31 : (.code yX12_many cX12_many 3 (some .int) : Cond) ∈ wsX12_blame := rl_wsX12_blame_r2 _ (List.mem_of_getElem? (i := 6) rfl)
theorem mw_X12_clear__1 : (.fieldLink RX12 132 "BallPotsModel" "thrown" "I" : Cond) ∈ wsX12_clear := List.mem_of_getElem? (i := 1) rfl
theorem mw_X12_clear__2 : (.fieldLink RX12 234 "BallPotsModel" "out" "I" : Cond) ∈ wsX12_clear := List.mem_of_getElem? (i := 2) rfl
theorem mw_X12_clear__3 : (.fieldLink RX12 102 "BallPotsModel" "laid" "I" : Cond) ∈ wsX12_clear := List.mem_of_getElem? (i := 3) rfl
theorem mw_X12_comes__1 : (.fieldLink RX12 185 "BallPotsModel" "groups" "I" : Cond) ∈ wsX12_comes := List.mem_of_getElem? (i := 1) rfl
theorem mw_X12_comes__2 : (.fieldLink RX12 90 "BallPotsModel" "having" "[I" : Cond) ∈ wsX12_comes := List.mem_of_getElem? (i := 2) rfl
theorem mw_X12_comes__3 : (.fieldLink RX12 74 "BallPotsModel" "look" "[I" : Cond) ∈ wsX12_comes := List.mem_of_getElem? (i := 3) rfl
theorem mw_X12_comes__4 : (.fieldLink RX12 96 "BallPotsModel" "part" "[J" : Cond) ∈ wsX12_comes := List.mem_of_getElem? (i := 4) rfl
theorem mw_X12_comes__5 : (.fieldLink RX12 93 "BallPotsModel" "power" "[I" : Cond) ∈ wsX12_comes := List.mem_of_getElem? (i := 5) rfl
theorem mw_X12_comes__6 : (.methodLink RX12 294 yX12_agreeing : Cond) ∈ wsX12_comes := List.mem_of_getElem? (i := 6) rfl
theorem mw_X12_comes__7 : (.instanceMethod yX12_agreeing : Cond) ∈ wsX12_comes := List.mem_of_getElem? (i := 7) rfl
theorem mw_X12_comes__8 : (.selects RX12 yX12_agreeing yX12_agreeing : Cond) ∈ wsX12_comes := List.mem_of_getElem? (i := 8) rfl
theorem mw_X12_comes__9 : (.initialized RX12 : Cond) ∈ wsX12_comes := List.mem_of_getElem? (i := 9) rfl
theorem mw_X12_comes__10 : (.code yX12_agreeing cX12_agreeing 5 (some .int) : Cond) ∈ wsX12_comes := List.mem_of_getElem? (i := 10) rfl
theorem mw_X12_comes__11 : (.methodLink RX12 291 yX12_digit : Cond) ∈ wsX12_comes := List.mem_of_getElem? (i := 11) rfl
theorem mw_X12_comes__12 : (.instanceMethod yX12_digit : Cond) ∈ wsX12_comes := List.mem_of_getElem? (i := 12) rfl
theorem mw_X12_comes__13 : (.selects RX12 yX12_digit yX12_digit : Cond) ∈ wsX12_comes := List.mem_of_getElem? (i := 13) rfl
theorem mw_X12_comes__14 : (.code yX12_digit cX12_digit 3 (some .int) : Cond) ∈ wsX12_comes := List.mem_of_getElem? (i := 14) rfl
theorem mw_X12_comes__15 : (.methodLink RX12 297 yX12_share : Cond) ∈ wsX12_comes := List.mem_of_getElem? (i := 15) rfl
theorem mw_X12_comes__16 : (.static yX12_share : Cond) ∈ wsX12_comes := List.mem_of_getElem? (i := 16) rfl
theorem mw_X12_comes__17 : (.code yX12_share cX12_share 1 (some .int) : Cond) ∈ wsX12_comes := List.mem_of_getElem? (i := 17) rfl
theorem mw_X12_comesNext__1 : (.constantLong RX12 396 (1103515245) : Cond) ∈ wsX12_comesNext := List.mem_of_getElem? (i := 1) rfl
theorem mw_X12_comesNext__2 : (.constantLong RX12 398 (12345) : Cond) ∈ wsX12_comesNext := List.mem_of_getElem? (i := 2) rfl
theorem mw_X12_comesNext__3 : (.constantLong RX12 400 (2147483647) : Cond) ∈ wsX12_comesNext := List.mem_of_getElem? (i := 3) rfl
theorem mw_X12_count__1 : (.fieldLink RX12 132 "BallPotsModel" "thrown" "I" : Cond) ∈ wsX12_count := List.mem_of_getElem? (i := 1) rfl
theorem mw_X12_count__2 : (.fieldLink RX12 185 "BallPotsModel" "groups" "I" : Cond) ∈ wsX12_count := List.mem_of_getElem? (i := 2) rfl
theorem mw_X12_count__3 : (.fieldLink RX12 188 "BallPotsModel" "pots" "I" : Cond) ∈ wsX12_count := List.mem_of_getElem? (i := 3) rfl
theorem mw_X12_count__4 : (.fieldLink RX12 222 "BallPotsModel" "marks" "I" : Cond) ∈ wsX12_count := List.mem_of_getElem? (i := 4) rfl
theorem mw_X12_count__5 : (.fieldLink RX12 225 "BallPotsModel" "bars" "I" : Cond) ∈ wsX12_count := List.mem_of_getElem? (i := 5) rfl
theorem mw_X12_count__6 : (.fieldLink RX12 234 "BallPotsModel" "out" "I" : Cond) ∈ wsX12_count := List.mem_of_getElem? (i := 6) rfl
theorem mw_X12_count__7 : (.fieldLink RX12 248 "BallPotsModel" "draws" "I" : Cond) ∈ wsX12_count := List.mem_of_getElem? (i := 7) rfl
theorem mw_X12_count__8 : (.methodLink RX12 241 yX12_teams : Cond) ∈ wsX12_count := List.mem_of_getElem? (i := 8) rfl
theorem mw_X12_count__9 : (.instanceMethod yX12_teams : Cond) ∈ wsX12_count := List.mem_of_getElem? (i := 9) rfl
theorem mw_X12_count__10 : (.selects RX12 yX12_teams yX12_teams : Cond) ∈ wsX12_count := List.mem_of_getElem? (i := 10) rfl
theorem mw_X12_count__11 : (.initialized RX12 : Cond) ∈ wsX12_count := List.mem_of_getElem? (i := 11) rfl
theorem mw_X12_count__12 : (.code yX12_teams cX12_teams 1 (some .int) : Cond) ∈ wsX12_count := List.mem_of_getElem? (i := 12) rfl
theorem mw_X12_digit__1 : (.fieldLink RX12 93 "BallPotsModel" "power" "[I" : Cond) ∈ wsX12_digit := List.mem_of_getElem? (i := 1) rfl
theorem mw_X12_digit__2 : (.fieldLink RX12 185 "BallPotsModel" "groups" "I" : Cond) ∈ wsX12_digit := List.mem_of_getElem? (i := 2) rfl
theorem mw_X12_draw__1 : (.fieldLink RX12 132 "BallPotsModel" "thrown" "I" : Cond) ∈ wsX12_draw := List.mem_of_getElem? (i := 1) rfl
theorem mw_X12_draw__2 : (.fieldLink RX12 251 "BallPotsModel" "lawful" "I" : Cond) ∈ wsX12_draw := List.mem_of_getElem? (i := 2) rfl
theorem mw_X12_draw__3 : (.fieldLink RX12 248 "BallPotsModel" "draws" "I" : Cond) ∈ wsX12_draw := List.mem_of_getElem? (i := 3) rfl
theorem mw_X12_draw__4 : (.fieldLink RX12 47 "BallPotsModel" "breaks" "[I" : Cond) ∈ wsX12_draw := List.mem_of_getElem? (i := 4) rfl
theorem mw_X12_draw__5 : (.fieldLink RX12 51 "BallPotsModel" "groupOf" "[B" : Cond) ∈ wsX12_draw := List.mem_of_getElem? (i := 5) rfl
theorem mw_X12_draw__6 : (.methodLink RX12 269 yX12_isTeam : Cond) ∈ wsX12_draw := List.mem_of_getElem? (i := 6) rfl
theorem mw_X12_draw__7 : (.instanceMethod yX12_isTeam : Cond) ∈ wsX12_draw := List.mem_of_getElem? (i := 7) rfl
theorem mw_X12_draw__8 : (.selects RX12 yX12_isTeam yX12_isTeam : Cond) ∈ wsX12_draw := List.mem_of_getElem? (i := 8) rfl
theorem mw_X12_draw__9 : (.initialized RX12 : Cond) ∈ wsX12_draw := List.mem_of_getElem? (i := 9) rfl
theorem mw_X12_draw__10 : (.code yX12_isTeam cX12_isTeam 2 (some .boolean) : Cond) ∈ wsX12_draw := List.mem_of_getElem? (i := 10) rfl
theorem mw_X12_draw__11 : (.methodLink RX12 241 yX12_teams : Cond) ∈ wsX12_draw := List.mem_of_getElem? (i := 11) rfl
theorem mw_X12_draw__12 : (.instanceMethod yX12_teams : Cond) ∈ wsX12_draw := List.mem_of_getElem? (i := 12) rfl
theorem mw_X12_draw__13 : (.selects RX12 yX12_teams yX12_teams : Cond) ∈ wsX12_draw := List.mem_of_getElem? (i := 13) rfl
theorem mw_X12_draw__14 : (.code yX12_teams cX12_teams 1 (some .int) : Cond) ∈ wsX12_draw := List.mem_of_getElem? (i := 14) rfl
theorem mw_X12_draw__15 : (.fieldLink RX12 185 "BallPotsModel" "groups" "I" : Cond) ∈ wsX12_draw := List.mem_of_getElem? (i := 15) rfl
theorem mw_X12_draw__16 : (.fieldLink RX12 188 "BallPotsModel" "pots" "I" : Cond) ∈ wsX12_draw := List.mem_of_getElem? (i := 16) rfl
theorem mw_X12_ends__1 : (.fieldLink RX12 132 "BallPotsModel" "thrown" "I" : Cond) ∈ wsX12_ends := List.mem_of_getElem? (i := 1) rfl
theorem mw_X12_ends__2 : (.fieldLink RX12 248 "BallPotsModel" "draws" "I" : Cond) ∈ wsX12_ends := List.mem_of_getElem? (i := 2) rfl
theorem mw_X12_ends__3 : (.fieldLink RX12 47 "BallPotsModel" "breaks" "[I" : Cond) ∈ wsX12_ends := List.mem_of_getElem? (i := 3) rfl
theorem mw_X12_ends__4 : (.fieldLink RX12 234 "BallPotsModel" "out" "I" : Cond) ∈ wsX12_ends := List.mem_of_getElem? (i := 4) rfl
theorem mw_X12_ends__5 : (.fieldLink RX12 51 "BallPotsModel" "groupOf" "[B" : Cond) ∈ wsX12_ends := List.mem_of_getElem? (i := 5) rfl
theorem mw_X12_ends__6 : (.methodLink RX12 269 yX12_isTeam : Cond) ∈ wsX12_ends := List.mem_of_getElem? (i := 6) rfl
theorem mw_X12_ends__7 : (.instanceMethod yX12_isTeam : Cond) ∈ wsX12_ends := List.mem_of_getElem? (i := 7) rfl
theorem mw_X12_ends__8 : (.selects RX12 yX12_isTeam yX12_isTeam : Cond) ∈ wsX12_ends := List.mem_of_getElem? (i := 8) rfl
theorem mw_X12_ends__9 : (.initialized RX12 : Cond) ∈ wsX12_ends := List.mem_of_getElem? (i := 9) rfl
theorem mw_X12_ends__10 : (.code yX12_isTeam cX12_isTeam 2 (some .boolean) : Cond) ∈ wsX12_ends := List.mem_of_getElem? (i := 10) rfl
theorem mw_X12_ends__11 : (.methodLink RX12 241 yX12_teams : Cond) ∈ wsX12_ends := List.mem_of_getElem? (i := 11) rfl
theorem mw_X12_ends__12 : (.instanceMethod yX12_teams : Cond) ∈ wsX12_ends := List.mem_of_getElem? (i := 12) rfl
theorem mw_X12_ends__13 : (.selects RX12 yX12_teams yX12_teams : Cond) ∈ wsX12_ends := List.mem_of_getElem? (i := 13) rfl
theorem mw_X12_ends__14 : (.code yX12_teams cX12_teams 1 (some .int) : Cond) ∈ wsX12_ends := List.mem_of_getElem? (i := 14) rfl
theorem mw_X12_ends__15 : (.fieldLink RX12 185 "BallPotsModel" "groups" "I" : Cond) ∈ wsX12_ends := List.mem_of_getElem? (i := 15) rfl
theorem mw_X12_ends__16 : (.fieldLink RX12 188 "BallPotsModel" "pots" "I" : Cond) ∈ wsX12_ends := List.mem_of_getElem? (i := 16) rfl
theorem mw_X12_ends__17 : (.methodLink RX12 275 yX12_isAsPlaced : Cond) ∈ wsX12_ends := List.mem_of_getElem? (i := 17) rfl
theorem mw_X12_ends__18 : (.instanceMethod yX12_isAsPlaced : Cond) ∈ wsX12_ends := List.mem_of_getElem? (i := 18) rfl
theorem mw_X12_ends__19 : (.selects RX12 yX12_isAsPlaced yX12_isAsPlaced : Cond) ∈ wsX12_ends := List.mem_of_getElem? (i := 19) rfl
theorem mw_X12_ends__20 : (.code yX12_isAsPlaced cX12_isAsPlaced 4 (some .boolean) : Cond) ∈ wsX12_ends := List.mem_of_getElem? (i := 20) rfl
theorem mw_X12_ends__21 : (.fieldLink RX12 65 "BallPotsModel" "ballOf" "[I" : Cond) ∈ wsX12_ends := List.mem_of_getElem? (i := 21) rfl
theorem mw_X12_ends__22 : (.fieldLink RX12 68 "BallPotsModel" "groupGot" "[I" : Cond) ∈ wsX12_ends := List.mem_of_getElem? (i := 22) rfl
theorem mw_X12_evenly__1 : (.fieldLink RX12 132 "BallPotsModel" "thrown" "I" : Cond) ∈ wsX12_evenly := List.mem_of_getElem? (i := 1) rfl
theorem mw_X12_evenly__2 : (.fieldLink RX12 251 "BallPotsModel" "lawful" "I" : Cond) ∈ wsX12_evenly := List.mem_of_getElem? (i := 2) rfl
theorem mw_X12_evenly__3 : (.constantLong RX12 408 (2147483648) : Cond) ∈ wsX12_evenly := List.mem_of_getElem? (i := 3) rfl
theorem mw_X12_evenly__4 : (.methodLink RX12 237 yX12_isIn : Cond) ∈ wsX12_evenly := List.mem_of_getElem? (i := 4) rfl
theorem mw_X12_evenly__5 : (.static yX12_isIn : Cond) ∈ wsX12_evenly := List.mem_of_getElem? (i := 5) rfl
theorem mw_X12_evenly__6 : (.initialized RX12 : Cond) ∈ wsX12_evenly := List.mem_of_getElem? (i := 6) rfl
theorem mw_X12_evenly__7 : (.code yX12_isIn cX12_isIn 3 (some .boolean) : Cond) ∈ wsX12_evenly := List.mem_of_getElem? (i := 7) rfl
theorem mw_X12_evenly__8 : (.methodLink RX12 402 yX12_comesNext : Cond) ∈ wsX12_evenly := List.mem_of_getElem? (i := 8) rfl
theorem mw_X12_evenly__9 : (.static yX12_comesNext : Cond) ∈ wsX12_evenly := List.mem_of_getElem? (i := 9) rfl
theorem mw_X12_evenly__10 : (.code yX12_comesNext cX12_comesNext 2 (some .long) : Cond) ∈ wsX12_evenly := List.mem_of_getElem? (i := 10) rfl
theorem mw_X12_evenly__11 : (.constantLong RX12 396 (1103515245) : Cond) ∈ wsX12_evenly := List.mem_of_getElem? (i := 11) rfl
theorem mw_X12_evenly__12 : (.constantLong RX12 398 (12345) : Cond) ∈ wsX12_evenly := List.mem_of_getElem? (i := 12) rfl
theorem mw_X12_evenly__13 : (.constantLong RX12 400 (2147483647) : Cond) ∈ wsX12_evenly := List.mem_of_getElem? (i := 13) rfl
theorem mw_X12_fails__1 : (.fieldLink RX12 132 "BallPotsModel" "thrown" "I" : Cond) ∈ wsX12_fails := List.mem_of_getElem? (i := 1) rfl
theorem mw_X12_fault__1 : (.fieldLink RX12 132 "BallPotsModel" "thrown" "I" : Cond) ∈ wsX12_fault := List.mem_of_getElem? (i := 1) rfl
theorem mw_X12_fault__2 : (.fieldLink RX12 138 "BallPotsModel" "fault" "I" : Cond) ∈ wsX12_fault := List.mem_of_getElem? (i := 2) rfl
theorem mw_X12_fault__3 : (.fieldLink RX12 16 "BallPotsModel" "faultPlace" "I" : Cond) ∈ wsX12_fault := List.mem_of_getElem? (i := 3) rfl
theorem mw_X12_feed__1 : (.fieldLink RX12 132 "BallPotsModel" "thrown" "I" : Cond) ∈ wsX12_feed := List.mem_of_getElem? (i := 1) rfl
theorem mw_X12_feed__2 : (.fieldLink RX12 135 "BallPotsModel" "tapeSize" "I" : Cond) ∈ wsX12_feed := List.mem_of_getElem? (i := 2) rfl
theorem mw_X12_feed__3 : (.fieldLink RX12 7 "BallPotsModel" "tape" "[I" : Cond) ∈ wsX12_feed := List.mem_of_getElem? (i := 3) rfl
theorem mw_X12_fewest__1 : (.fieldLink RX12 55 "BallPotsModel" "broken" "[Z" : Cond) ∈ wsX12_fewest := List.mem_of_getElem? (i := 1) rfl
theorem mw_X12_fewest__2 : (.fieldLink RX12 225 "BallPotsModel" "bars" "I" : Cond) ∈ wsX12_fewest := List.mem_of_getElem? (i := 2) rfl
theorem mw_X12_fewest__3 : (.methodLink RX12 263 yX12_many : Cond) ∈ wsX12_fewest := List.mem_of_getElem? (i := 3) rfl
theorem mw_X12_fewest__4 : (.static yX12_many : Cond) ∈ wsX12_fewest := List.mem_of_getElem? (i := 4) rfl
theorem mw_X12_fewest__5 : (.initialized RX12 : Cond) ∈ wsX12_fewest := List.mem_of_getElem? (i := 5) rfl
theorem mw_X12_fewest__6 : (.code yX12_many cX12_many 3 (some .int) : Cond) ∈ wsX12_fewest := List.mem_of_getElem? (i := 6) rfl
theorem mw_X12_fills__1 : (.fieldLink RX12 108 "BallPotsModel" "partOf" "[I" : Cond) ∈ wsX12_fills := List.mem_of_getElem? (i := 1) rfl
theorem mw_X12_fills__2 : (.fieldLink RX12 111 "BallPotsModel" "queue" "[I" : Cond) ∈ wsX12_fills := List.mem_of_getElem? (i := 2) rfl
theorem mw_X12_fills__3 : (.fieldLink RX12 188 "BallPotsModel" "pots" "I" : Cond) ∈ wsX12_fills := List.mem_of_getElem? (i := 3) rfl
theorem mw_X12_fills__4 : (.fieldLink RX12 185 "BallPotsModel" "groups" "I" : Cond) ∈ wsX12_fills := List.mem_of_getElem? (i := 4) rfl
theorem mw_X12_fills__5 : (.fieldLink RX12 47 "BallPotsModel" "breaks" "[I" : Cond) ∈ wsX12_fills := List.mem_of_getElem? (i := 5) rfl
theorem mw_X12_fills__6 : (.methodLink RX12 383 yX12_swapped : Cond) ∈ wsX12_fills := List.mem_of_getElem? (i := 6) rfl
theorem mw_X12_fills__7 : (.instanceMethod yX12_swapped : Cond) ∈ wsX12_fills := List.mem_of_getElem? (i := 7) rfl
theorem mw_X12_fills__8 : (.selects RX12 yX12_swapped yX12_swapped : Cond) ∈ wsX12_fills := List.mem_of_getElem? (i := 8) rfl
theorem mw_X12_fills__9 : (.initialized RX12 : Cond) ∈ wsX12_fills := List.mem_of_getElem? (i := 9) rfl
theorem mw_X12_fills__10 : (.code yX12_swapped cX12_swapped 6 (some .int) : Cond) ∈ wsX12_fills := List.mem_of_getElem? (i := 10) rfl
theorem mw_X12_fills__11 : (.fieldLink RX12 114 "BallPotsModel" "step" "[I" : Cond) ∈ wsX12_fills := List.mem_of_getElem? (i := 11) rfl
theorem mw_X12_fills__12 : (.fieldLink RX12 245 "BallPotsModel" "ranks" "I" : Cond) ∈ wsX12_fills := List.mem_of_getElem? (i := 12) rfl
theorem mw_X12_fills__13 : (.fieldLink RX12 117 "BallPotsModel" "turned" "[I" : Cond) ∈ wsX12_fills := List.mem_of_getElem? (i := 13) rfl
theorem mw_X12_forbids__1 : (.fieldLink RX12 132 "BallPotsModel" "thrown" "I" : Cond) ∈ wsX12_forbids := List.mem_of_getElem? (i := 1) rfl
theorem mw_X12_forbids__2 : (.fieldLink RX12 251 "BallPotsModel" "lawful" "I" : Cond) ∈ wsX12_forbids := List.mem_of_getElem? (i := 2) rfl
theorem mw_X12_forbids__3 : (.fieldLink RX12 55 "BallPotsModel" "broken" "[Z" : Cond) ∈ wsX12_forbids := List.mem_of_getElem? (i := 3) rfl
theorem mw_X12_forbids__4 : (.fieldLink RX12 248 "BallPotsModel" "draws" "I" : Cond) ∈ wsX12_forbids := List.mem_of_getElem? (i := 4) rfl
theorem mw_X12_forbids__5 : (.fieldLink RX12 47 "BallPotsModel" "breaks" "[I" : Cond) ∈ wsX12_forbids := List.mem_of_getElem? (i := 5) rfl
theorem mw_X12_forbids__6 : (.methodLink RX12 266 yX12_fewest : Cond) ∈ wsX12_forbids := List.mem_of_getElem? (i := 6) rfl
theorem mw_X12_forbids__7 : (.instanceMethod yX12_fewest : Cond) ∈ wsX12_forbids := List.mem_of_getElem? (i := 7) rfl
theorem mw_X12_forbids__8 : (.selects RX12 yX12_fewest yX12_fewest : Cond) ∈ wsX12_forbids := List.mem_of_getElem? (i := 8) rfl
theorem mw_X12_forbids__9 : (.initialized RX12 : Cond) ∈ wsX12_forbids := List.mem_of_getElem? (i := 9) rfl
theorem mw_X12_forbids__10 : (.code yX12_fewest cX12_fewest 5 (some .int) : Cond) ∈ wsX12_forbids := List.mem_of_getElem? (i := 10) rfl
theorem mw_X12_forbids__11 : (.fieldLink RX12 225 "BallPotsModel" "bars" "I" : Cond) ∈ wsX12_forbids := List.mem_of_getElem? (i := 11) rfl
theorem mw_X12_forbids__12 : (.methodLink RX12 263 yX12_many : Cond) ∈ wsX12_forbids := List.mem_of_getElem? (i := 12) rfl
theorem mw_X12_forbids__13 : (.static yX12_many : Cond) ∈ wsX12_forbids := List.mem_of_getElem? (i := 13) rfl
theorem mw_X12_forbids__14 : (.code yX12_many cX12_many 3 (some .int) : Cond) ∈ wsX12_forbids := List.mem_of_getElem? (i := 14) rfl
theorem mw_X12_isAsPlaced__1 : (.fieldLink RX12 51 "BallPotsModel" "groupOf" "[B" : Cond) ∈ wsX12_isAsPlaced := List.mem_of_getElem? (i := 1) rfl
theorem mw_X12_isAsPlaced__2 : (.fieldLink RX12 65 "BallPotsModel" "ballOf" "[I" : Cond) ∈ wsX12_isAsPlaced := List.mem_of_getElem? (i := 2) rfl
theorem mw_X12_isAsPlaced__3 : (.fieldLink RX12 68 "BallPotsModel" "groupGot" "[I" : Cond) ∈ wsX12_isAsPlaced := List.mem_of_getElem? (i := 3) rfl
theorem mw_X12_isBroken__1 : (.fieldLink RX12 29 "BallPotsModel" "bar" "[I" : Cond) ∈ wsX12_isBroken := List.mem_of_getElem? (i := 1) rfl
theorem mw_X12_isBroken__2 : (.fieldLink RX12 51 "BallPotsModel" "groupOf" "[B" : Cond) ∈ wsX12_isBroken := List.mem_of_getElem? (i := 2) rfl
theorem mw_X12_isBroken__3 : (.fieldLink RX12 185 "BallPotsModel" "groups" "I" : Cond) ∈ wsX12_isBroken := List.mem_of_getElem? (i := 3) rfl
theorem mw_X12_isBroken__4 : (.fieldLink RX12 26 "BallPotsModel" "marked" "[I" : Cond) ∈ wsX12_isBroken := List.mem_of_getElem? (i := 4) rfl
theorem mw_X12_isBroken__5 : (.methodLink RX12 241 yX12_teams : Cond) ∈ wsX12_isBroken := List.mem_of_getElem? (i := 5) rfl
theorem mw_X12_isBroken__6 : (.instanceMethod yX12_teams : Cond) ∈ wsX12_isBroken := List.mem_of_getElem? (i := 6) rfl
theorem mw_X12_isBroken__7 : (.selects RX12 yX12_teams yX12_teams : Cond) ∈ wsX12_isBroken := List.mem_of_getElem? (i := 7) rfl
theorem mw_X12_isBroken__8 : (.initialized RX12 : Cond) ∈ wsX12_isBroken := List.mem_of_getElem? (i := 8) rfl
theorem mw_X12_isBroken__9 : (.code yX12_teams cX12_teams 1 (some .int) : Cond) ∈ wsX12_isBroken := List.mem_of_getElem? (i := 9) rfl
theorem mw_X12_isBroken__10 : (.fieldLink RX12 188 "BallPotsModel" "pots" "I" : Cond) ∈ wsX12_isBroken := List.mem_of_getElem? (i := 10) rfl
theorem mw_X12_isDigit__1 : (.fieldLink RX12 144 "BallPotsModel" "stop" "I" : Cond) ∈ wsX12_isDigit := List.mem_of_getElem? (i := 1) rfl
theorem mw_X12_isDigit__2 : (.fieldLink RX12 7 "BallPotsModel" "tape" "[I" : Cond) ∈ wsX12_isDigit := List.mem_of_getElem? (i := 2) rfl
theorem mw_X12_isEven__1 : (.fieldLink RX12 102 "BallPotsModel" "laid" "I" : Cond) ∈ wsX12_isEven := List.mem_of_getElem? (i := 1) rfl
theorem mw_X12_isEven__2 : (.fieldLink RX12 248 "BallPotsModel" "draws" "I" : Cond) ∈ wsX12_isEven := List.mem_of_getElem? (i := 2) rfl
theorem mw_X12_isEven__3 : (.fieldLink RX12 99 "BallPotsModel" "weight" "[J" : Cond) ∈ wsX12_isEven := List.mem_of_getElem? (i := 3) rfl
theorem mw_X12_isEven__4 : (.fieldLink RX12 47 "BallPotsModel" "breaks" "[I" : Cond) ∈ wsX12_isEven := List.mem_of_getElem? (i := 4) rfl
theorem mw_X12_isEven__5 : (.fieldLink RX12 185 "BallPotsModel" "groups" "I" : Cond) ∈ wsX12_isEven := List.mem_of_getElem? (i := 5) rfl
theorem mw_X12_isEven__6 : (.constantLong RX12 372 (100) : Cond) ∈ wsX12_isEven := List.mem_of_getElem? (i := 6) rfl
theorem mw_X12_isEven__7 : (.methodLink RX12 260 yX12_lawfulBut : Cond) ∈ wsX12_isEven := List.mem_of_getElem? (i := 7) rfl
theorem mw_X12_isEven__8 : (.instanceMethod yX12_lawfulBut : Cond) ∈ wsX12_isEven := List.mem_of_getElem? (i := 8) rfl
theorem mw_X12_isEven__9 : (.selects RX12 yX12_lawfulBut yX12_lawfulBut : Cond) ∈ wsX12_isEven := List.mem_of_getElem? (i := 9) rfl
theorem mw_X12_isEven__10 : (.initialized RX12 : Cond) ∈ wsX12_isEven := List.mem_of_getElem? (i := 10) rfl
theorem mw_X12_isEven__11 : (.code yX12_lawfulBut cX12_lawfulBut 4 (some .int) : Cond) ∈ wsX12_isEven := List.mem_of_getElem? (i := 11) rfl
theorem mw_X12_isEven__12 : (.methodLink RX12 241 yX12_teams : Cond) ∈ wsX12_isEven := List.mem_of_getElem? (i := 12) rfl
theorem mw_X12_isEven__13 : (.instanceMethod yX12_teams : Cond) ∈ wsX12_isEven := List.mem_of_getElem? (i := 13) rfl
theorem mw_X12_isEven__14 : (.selects RX12 yX12_teams yX12_teams : Cond) ∈ wsX12_isEven := List.mem_of_getElem? (i := 14) rfl
theorem mw_X12_isEven__15 : (.code yX12_teams cX12_teams 1 (some .int) : Cond) ∈ wsX12_isEven := List.mem_of_getElem? (i := 15) rfl
theorem mw_X12_isEven__16 : (.fieldLink RX12 188 "BallPotsModel" "pots" "I" : Cond) ∈ wsX12_isEven := List.mem_of_getElem? (i := 16) rfl
theorem mw_X12_isEven__17 : (.methodLink RX12 333 yX12_pairRows : Cond) ∈ wsX12_isEven := List.mem_of_getElem? (i := 17) rfl
theorem mw_X12_isEven__18 : (.instanceMethod yX12_pairRows : Cond) ∈ wsX12_isEven := List.mem_of_getElem? (i := 18) rfl
theorem mw_X12_isEven__19 : (.selects RX12 yX12_pairRows yX12_pairRows : Cond) ∈ wsX12_isEven := List.mem_of_getElem? (i := 19) rfl
theorem mw_X12_isEven__20 : (.code yX12_pairRows cX12_pairRows 6 (some .long) : Cond) ∈ wsX12_isEven := List.mem_of_getElem? (i := 20) rfl
theorem mw_X12_isEven__21 : (.fieldLink RX12 51 "BallPotsModel" "groupOf" "[B" : Cond) ∈ wsX12_isEven := List.mem_of_getElem? (i := 21) rfl
theorem mw_X12_isNumber__1 : (.fieldLink RX12 150 "BallPotsModel" "kind" "I" : Cond) ∈ wsX12_isNumber := List.mem_of_getElem? (i := 1) rfl
theorem mw_X12_isNumber__2 : (.fieldLink RX12 161 "BallPotsModel" "which" "I" : Cond) ∈ wsX12_isNumber := List.mem_of_getElem? (i := 2) rfl
theorem mw_X12_isNumber__3 : (.methodLink RX12 191 yX12_wrong : Cond) ∈ wsX12_isNumber := List.mem_of_getElem? (i := 3) rfl
theorem mw_X12_isNumber__4 : (.instanceMethod yX12_wrong : Cond) ∈ wsX12_isNumber := List.mem_of_getElem? (i := 4) rfl
theorem mw_X12_isNumber__5 : (.selects RX12 yX12_wrong yX12_wrong : Cond) ∈ wsX12_isNumber := List.mem_of_getElem? (i := 5) rfl
theorem mw_X12_isNumber__6 : (.initialized RX12 : Cond) ∈ wsX12_isNumber := List.mem_of_getElem? (i := 6) rfl
theorem mw_X12_isNumber__7 : (.code yX12_wrong cX12_wrong 2 (some .boolean) : Cond) ∈ wsX12_isNumber := List.mem_of_getElem? (i := 7) rfl
theorem mw_X12_isNumber__8 : (.fieldLink RX12 138 "BallPotsModel" "fault" "I" : Cond) ∈ wsX12_isNumber := List.mem_of_getElem? (i := 8) rfl
theorem mw_X12_isNumber__9 : (.fieldLink RX12 141 "BallPotsModel" "place" "I" : Cond) ∈ wsX12_isNumber := List.mem_of_getElem? (i := 9) rfl
theorem mw_X12_isNumber__10 : (.fieldLink RX12 16 "BallPotsModel" "faultPlace" "I" : Cond) ∈ wsX12_isNumber := List.mem_of_getElem? (i := 10) rfl
theorem mw_X12_isSmall__1 : (.fieldLink RX12 144 "BallPotsModel" "stop" "I" : Cond) ∈ wsX12_isSmall := List.mem_of_getElem? (i := 1) rfl
theorem mw_X12_isSmall__2 : (.fieldLink RX12 7 "BallPotsModel" "tape" "[I" : Cond) ∈ wsX12_isSmall := List.mem_of_getElem? (i := 2) rfl
theorem mw_X12_isTeam__1 : (.methodLink RX12 241 yX12_teams : Cond) ∈ wsX12_isTeam := List.mem_of_getElem? (i := 1) rfl
theorem mw_X12_isTeam__2 : (.instanceMethod yX12_teams : Cond) ∈ wsX12_isTeam := List.mem_of_getElem? (i := 2) rfl
theorem mw_X12_isTeam__3 : (.selects RX12 yX12_teams yX12_teams : Cond) ∈ wsX12_isTeam := List.mem_of_getElem? (i := 3) rfl
theorem mw_X12_isTeam__4 : (.initialized RX12 : Cond) ∈ wsX12_isTeam := List.mem_of_getElem? (i := 4) rfl
theorem mw_X12_isTeam__5 : (.code yX12_teams cX12_teams 1 (some .int) : Cond) ∈ wsX12_isTeam := List.mem_of_getElem? (i := 5) rfl
theorem mw_X12_isTeam__6 : (.fieldLink RX12 185 "BallPotsModel" "groups" "I" : Cond) ∈ wsX12_isTeam := List.mem_of_getElem? (i := 6) rfl
theorem mw_X12_isTeam__7 : (.fieldLink RX12 188 "BallPotsModel" "pots" "I" : Cond) ∈ wsX12_isTeam := List.mem_of_getElem? (i := 7) rfl
theorem mw_X12_judge__1 : (.fieldLink RX12 132 "BallPotsModel" "thrown" "I" : Cond) ∈ wsX12_judge := List.mem_of_getElem? (i := 1) rfl
theorem mw_X12_judge__2 : (.fieldLink RX12 248 "BallPotsModel" "draws" "I" : Cond) ∈ wsX12_judge := List.mem_of_getElem? (i := 2) rfl
theorem mw_X12_judge__3 : (.fieldLink RX12 47 "BallPotsModel" "breaks" "[I" : Cond) ∈ wsX12_judge := List.mem_of_getElem? (i := 3) rfl
theorem mw_X12_keep__1 : (.fieldLink RX12 170 "BallPotsModel" "groupsRead" "I" : Cond) ∈ wsX12_keep := rl_wsX12_keep_r1 _ (List.mem_of_getElem? (i := 0) rfl)
theorem mw_X12_keep__2 : (.fieldLink RX12 185 "BallPotsModel" "groups" "I" : Cond) ∈ wsX12_keep := rl_wsX12_keep_r1 _ (List.mem_of_getElem? (i := 1) rfl)
theorem mw_X12_keep__3 : (.fieldLink RX12 173 "BallPotsModel" "potsRead" "I" : Cond) ∈ wsX12_keep := rl_wsX12_keep_r1 _ (List.mem_of_getElem? (i := 2) rfl)
theorem mw_X12_keep__4 : (.fieldLink RX12 188 "BallPotsModel" "pots" "I" : Cond) ∈ wsX12_keep := rl_wsX12_keep_r1 _ (List.mem_of_getElem? (i := 3) rfl)
theorem mw_X12_keep__5 : (.fieldLink RX12 179 "BallPotsModel" "marksRead" "I" : Cond) ∈ wsX12_keep := rl_wsX12_keep_r1 _ (List.mem_of_getElem? (i := 4) rfl)
theorem mw_X12_keep__6 : (.fieldLink RX12 222 "BallPotsModel" "marks" "I" : Cond) ∈ wsX12_keep := rl_wsX12_keep_r1 _ (List.mem_of_getElem? (i := 5) rfl)
theorem mw_X12_keep__7 : (.fieldLink RX12 182 "BallPotsModel" "barsRead" "I" : Cond) ∈ wsX12_keep := rl_wsX12_keep_r1 _ (List.mem_of_getElem? (i := 6) rfl)
theorem mw_X12_keep__8 : (.fieldLink RX12 225 "BallPotsModel" "bars" "I" : Cond) ∈ wsX12_keep := rl_wsX12_keep_r1 _ (List.mem_of_getElem? (i := 7) rfl)
theorem mw_X12_keep__9 : (.fieldLink RX12 176 "BallPotsModel" "teamsRead" "I" : Cond) ∈ wsX12_keep := rl_wsX12_keep_r1 _ (List.mem_of_getElem? (i := 8) rfl)
theorem mw_X12_keep__10 : (.fieldLink RX12 20 "BallPotsModel" "team" "[I" : Cond) ∈ wsX12_keep := rl_wsX12_keep_r1 _ (List.mem_of_getElem? (i := 9) rfl)
theorem mw_X12_keep__11 : (.fieldLink RX12 32 "BallPotsModel" "teamRead" "[I" : Cond) ∈ wsX12_keep := rl_wsX12_keep_r1 _ (List.mem_of_getElem? (i := 10) rfl)
theorem mw_X12_keep__12 : (.fieldLink RX12 23 "BallPotsModel" "markName" "[I" : Cond) ∈ wsX12_keep := rl_wsX12_keep_r1 _ (List.mem_of_getElem? (i := 11) rfl)
theorem mw_X12_keep__13 : (.fieldLink RX12 35 "BallPotsModel" "markRead" "[I" : Cond) ∈ wsX12_keep := rl_wsX12_keep_r1 _ (List.mem_of_getElem? (i := 12) rfl)
theorem mw_X12_keep__14 : (.fieldLink RX12 26 "BallPotsModel" "marked" "[I" : Cond) ∈ wsX12_keep := rl_wsX12_keep_r1 _ (List.mem_of_getElem? (i := 13) rfl)
theorem mw_X12_keep__15 : (.fieldLink RX12 38 "BallPotsModel" "markedRead" "[I" : Cond) ∈ wsX12_keep := rl_wsX12_keep_r1 _ (List.mem_of_getElem? (i := 14) rfl)
theorem mw_X12_keep__16 : (.fieldLink RX12 29 "BallPotsModel" "bar" "[I" : Cond) ∈ wsX12_keep := rl_wsX12_keep_r1 _ (List.mem_of_getElem? (i := 15) rfl)
theorem mw_X12_keep__17 : (.fieldLink RX12 41 "BallPotsModel" "barRead" "[I" : Cond) ∈ wsX12_keep := rl_wsX12_keep_r1 _ (List.mem_of_getElem? (i := 16) rfl)
theorem mw_X12_keep__18 : (.fieldLink RX12 59 "BallPotsModel" "order" "[I" : Cond) ∈ wsX12_keep := rl_wsX12_keep_r1 _ (List.mem_of_getElem? (i := 17) rfl)
theorem mw_X12_keep__19 : (.fieldLink RX12 62 "BallPotsModel" "arranged" "[I" : Cond) ∈ wsX12_keep := rl_wsX12_keep_r1 _ (List.mem_of_getElem? (i := 18) rfl)
theorem mw_X12_keep__20 : (.fieldLink RX12 234 "BallPotsModel" "out" "I" : Cond) ∈ wsX12_keep := rl_wsX12_keep_r1 _ (List.mem_of_getElem? (i := 19) rfl)
theorem mw_X12_keep__21 : (.fieldLink RX12 102 "BallPotsModel" "laid" "I" : Cond) ∈ wsX12_keep := rl_wsX12_keep_r1 _ (List.mem_of_getElem? (i := 20) rfl)
theorem mw_X12_keep__22 : (.methodLink RX12 228 yX12_layRows : Cond) ∈ wsX12_keep := rl_wsX12_keep_r1 _ (List.mem_of_getElem? (i := 21) rfl)
theorem mw_X12_keep__23 : (.instanceMethod yX12_layRows : Cond) ∈ wsX12_keep := rl_wsX12_keep_r1 _ (List.mem_of_getElem? (i := 22) rfl)
theorem mw_X12_keep__24 : (.selects RX12 yX12_layRows yX12_layRows : Cond) ∈ wsX12_keep := rl_wsX12_keep_r1 _ (List.mem_of_getElem? (i := 23) rfl)
theorem mw_X12_keep__25 : (.initialized RX12 : Cond) ∈ wsX12_keep := rl_wsX12_keep_r2 _ (List.mem_of_getElem? (i := 0) rfl)
theorem mw_X12_keep__26 : (.code yX12_layRows cX12_layRows 6 none : Cond) ∈ wsX12_keep := rl_wsX12_keep_r2 _ (List.mem_of_getElem? (i := 1) rfl)
theorem mw_X12_keep__27 : (.fieldLink RX12 245 "BallPotsModel" "ranks" "I" : Cond) ∈ wsX12_keep := rl_wsX12_keep_r2 _ (List.mem_of_getElem? (i := 2) rfl)
theorem mw_X12_keep__28 : (.fieldLink RX12 44 "BallPotsModel" "row" "[I" : Cond) ∈ wsX12_keep := rl_wsX12_keep_r2 _ (List.mem_of_getElem? (i := 3) rfl)
theorem mw_X12_keep__29 : (.methodLink RX12 231 yX12_layDraws : Cond) ∈ wsX12_keep := rl_wsX12_keep_r2 _ (List.mem_of_getElem? (i := 4) rfl)
theorem mw_X12_keep__30 : (.instanceMethod yX12_layDraws : Cond) ∈ wsX12_keep := rl_wsX12_keep_r2 _ (List.mem_of_getElem? (i := 5) rfl)
theorem mw_X12_keep__31 : (.selects RX12 yX12_layDraws yX12_layDraws : Cond) ∈ wsX12_keep := rl_wsX12_keep_r2 _ (List.mem_of_getElem? (i := 6) rfl)
theorem mw_X12_keep__32 : (.code yX12_layDraws cX12_layDraws 5 none : Cond) ∈ wsX12_keep := rl_wsX12_keep_r2 _ (List.mem_of_getElem? (i := 7) rfl)
theorem mw_X12_keep__33 : (.fieldLink RX12 248 "BallPotsModel" "draws" "I" : Cond) ∈ wsX12_keep := rl_wsX12_keep_r2 _ (List.mem_of_getElem? (i := 8) rfl)
theorem mw_X12_keep__34 : (.fieldLink RX12 251 "BallPotsModel" "lawful" "I" : Cond) ∈ wsX12_keep := rl_wsX12_keep_r2 _ (List.mem_of_getElem? (i := 9) rfl)
theorem mw_X12_keep__35 : (.fieldLink RX12 51 "BallPotsModel" "groupOf" "[B" : Cond) ∈ wsX12_keep := rl_wsX12_keep_r2 _ (List.mem_of_getElem? (i := 10) rfl)
theorem mw_X12_keep__36 : (.fieldLink RX12 47 "BallPotsModel" "breaks" "[I" : Cond) ∈ wsX12_keep := rl_wsX12_keep_r2 _ (List.mem_of_getElem? (i := 11) rfl)
theorem mw_X12_keep__37 : (.methodLink RX12 254 yX12_rankIn : Cond) ∈ wsX12_keep := rl_wsX12_keep_r2 _ (List.mem_of_getElem? (i := 12) rfl)
theorem mw_X12_keep__38 : (.instanceMethod yX12_rankIn : Cond) ∈ wsX12_keep := rl_wsX12_keep_r2 _ (List.mem_of_getElem? (i := 13) rfl)
theorem mw_X12_keep__39 : (.selects RX12 yX12_rankIn yX12_rankIn : Cond) ∈ wsX12_keep := rl_wsX12_keep_r2 _ (List.mem_of_getElem? (i := 14) rfl)
theorem mw_X12_keep__40 : (.code yX12_rankIn cX12_rankIn 5 (some .int) : Cond) ∈ wsX12_keep := rl_wsX12_keep_r2 _ (List.mem_of_getElem? (i := 15) rfl)
theorem mw_X12_keep__41 : (.methodLink RX12 257 yX12_isBroken : Cond) ∈ wsX12_keep := rl_wsX12_keep_r2 _ (List.mem_of_getElem? (i := 16) rfl)
theorem mw_X12_keep__42 : (.instanceMethod yX12_isBroken : Cond) ∈ wsX12_keep := rl_wsX12_keep_r2 _ (List.mem_of_getElem? (i := 17) rfl)
theorem mw_X12_keep__43 : (.selects RX12 yX12_isBroken yX12_isBroken : Cond) ∈ wsX12_keep := rl_wsX12_keep_r2 _ (List.mem_of_getElem? (i := 18) rfl)
theorem mw_X12_keep__44 : (.code yX12_isBroken cX12_isBroken 8 (some .boolean) : Cond) ∈ wsX12_keep := rl_wsX12_keep_r2 _ (List.mem_of_getElem? (i := 19) rfl)
theorem mw_X12_keep__45 : (.methodLink RX12 241 yX12_teams : Cond) ∈ wsX12_keep := rl_wsX12_keep_r2 _ (List.mem_of_getElem? (i := 20) rfl)
theorem mw_X12_keep__46 : (.instanceMethod yX12_teams : Cond) ∈ wsX12_keep := rl_wsX12_keep_r2 _ (List.mem_of_getElem? (i := 21) rfl)
theorem mw_X12_keep__47 : (.selects RX12 yX12_teams yX12_teams : Cond) ∈ wsX12_keep := rl_wsX12_keep_r2 _ (List.mem_of_getElem? (i := 22) rfl)
theorem mw_X12_keep__48 : (.code yX12_teams cX12_teams 1 (some .int) : Cond) ∈ wsX12_keep := rl_wsX12_keep_r2 _ (List.mem_of_getElem? (i := 23) rfl)
theorem mw_X12_lawful__1 : (.fieldLink RX12 132 "BallPotsModel" "thrown" "I" : Cond) ∈ wsX12_lawful := List.mem_of_getElem? (i := 1) rfl
theorem mw_X12_lawful__2 : (.fieldLink RX12 251 "BallPotsModel" "lawful" "I" : Cond) ∈ wsX12_lawful := List.mem_of_getElem? (i := 2) rfl
theorem mw_X12_lawfulBut__1 : (.fieldLink RX12 248 "BallPotsModel" "draws" "I" : Cond) ∈ wsX12_lawfulBut := List.mem_of_getElem? (i := 1) rfl
theorem mw_X12_lawfulBut__2 : (.fieldLink RX12 47 "BallPotsModel" "breaks" "[I" : Cond) ∈ wsX12_lawfulBut := List.mem_of_getElem? (i := 2) rfl
theorem mw_X12_layApart__1 : (.fieldLink RX12 105 "BallPotsModel" "pairs" "[J" : Cond) ∈ wsX12_layApart := rl_wsX12_layApart_r1 _ (List.mem_of_getElem? (i := 0) rfl)
theorem mw_X12_layApart__2 : (.fieldLink RX12 341 "BallPotsModel" "beneath" "J" : Cond) ∈ wsX12_layApart := rl_wsX12_layApart_r1 _ (List.mem_of_getElem? (i := 1) rfl)
theorem mw_X12_layApart__3 : (.fieldLink RX12 345 "BallPotsModel" "apart" "J" : Cond) ∈ wsX12_layApart := rl_wsX12_layApart_r1 _ (List.mem_of_getElem? (i := 2) rfl)
theorem mw_X12_layApart__4 : (.fieldLink RX12 348 "BallPotsModel" "sum" "J" : Cond) ∈ wsX12_layApart := rl_wsX12_layApart_r1 _ (List.mem_of_getElem? (i := 3) rfl)
theorem mw_X12_layApart__5 : (.fieldLink RX12 351 "BallPotsModel" "farOne" "I" : Cond) ∈ wsX12_layApart := rl_wsX12_layApart_r1 _ (List.mem_of_getElem? (i := 4) rfl)
theorem mw_X12_layApart__6 : (.fieldLink RX12 354 "BallPotsModel" "farOther" "I" : Cond) ∈ wsX12_layApart := rl_wsX12_layApart_r1 _ (List.mem_of_getElem? (i := 5) rfl)
theorem mw_X12_layApart__7 : (.fieldLink RX12 357 "BallPotsModel" "far" "J" : Cond) ∈ wsX12_layApart := rl_wsX12_layApart_r1 _ (List.mem_of_getElem? (i := 6) rfl)
theorem mw_X12_layApart__8 : (.fieldLink RX12 185 "BallPotsModel" "groups" "I" : Cond) ∈ wsX12_layApart := rl_wsX12_layApart_r1 _ (List.mem_of_getElem? (i := 7) rfl)
theorem mw_X12_layApart__9 : (.methodLink RX12 307 yX12_layWeights : Cond) ∈ wsX12_layApart := rl_wsX12_layApart_r1 _ (List.mem_of_getElem? (i := 8) rfl)
theorem mw_X12_layApart__10 : (.instanceMethod yX12_layWeights : Cond) ∈ wsX12_layApart := rl_wsX12_layApart_r1 _ (List.mem_of_getElem? (i := 9) rfl)
theorem mw_X12_layApart__11 : (.selects RX12 yX12_layWeights yX12_layWeights : Cond) ∈ wsX12_layApart := rl_wsX12_layApart_r1 _ (List.mem_of_getElem? (i := 10) rfl)
theorem mw_X12_layApart__12 : (.initialized RX12 : Cond) ∈ wsX12_layApart := rl_wsX12_layApart_r1 _ (List.mem_of_getElem? (i := 11) rfl)
theorem mw_X12_layApart__13 : (.code yX12_layWeights cX12_layWeights 10 none : Cond) ∈ wsX12_layApart := rl_wsX12_layApart_r1 _ (List.mem_of_getElem? (i := 12) rfl)
theorem mw_X12_layApart__14 : (.fieldLink RX12 102 "BallPotsModel" "laid" "I" : Cond) ∈ wsX12_layApart := rl_wsX12_layApart_r1 _ (List.mem_of_getElem? (i := 13) rfl)
theorem mw_X12_layApart__15 : (.fieldLink RX12 234 "BallPotsModel" "out" "I" : Cond) ∈ wsX12_layApart := rl_wsX12_layApart_r1 _ (List.mem_of_getElem? (i := 14) rfl)
theorem mw_X12_layApart__16 : (.fieldLink RX12 248 "BallPotsModel" "draws" "I" : Cond) ∈ wsX12_layApart := rl_wsX12_layApart_r1 _ (List.mem_of_getElem? (i := 15) rfl)
theorem mw_X12_layApart__17 : (.fieldLink RX12 99 "BallPotsModel" "weight" "[J" : Cond) ∈ wsX12_layApart := rl_wsX12_layApart_r1 _ (List.mem_of_getElem? (i := 16) rfl)
theorem mw_X12_layApart__18 : (.fieldLink RX12 47 "BallPotsModel" "breaks" "[I" : Cond) ∈ wsX12_layApart := rl_wsX12_layApart_r1 _ (List.mem_of_getElem? (i := 17) rfl)
theorem mw_X12_layApart__19 : (.fieldLink RX12 251 "BallPotsModel" "lawful" "I" : Cond) ∈ wsX12_layApart := rl_wsX12_layApart_r1 _ (List.mem_of_getElem? (i := 18) rfl)
theorem mw_X12_layApart__20 : (.fieldLink RX12 77 "BallPotsModel" "level" "[I" : Cond) ∈ wsX12_layApart := rl_wsX12_layApart_r1 _ (List.mem_of_getElem? (i := 19) rfl)
theorem mw_X12_layApart__21 : (.fieldLink RX12 188 "BallPotsModel" "pots" "I" : Cond) ∈ wsX12_layApart := rl_wsX12_layApart_r1 _ (List.mem_of_getElem? (i := 20) rfl)
theorem mw_X12_layApart__22 : (.fieldLink RX12 83 "BallPotsModel" "ways" "[J" : Cond) ∈ wsX12_layApart := rl_wsX12_layApart_r1 _ (List.mem_of_getElem? (i := 21) rfl)
theorem mw_X12_layApart__23 : (.fieldLink RX12 245 "BallPotsModel" "ranks" "I" : Cond) ∈ wsX12_layApart := rl_wsX12_layApart_r1 _ (List.mem_of_getElem? (i := 22) rfl)
theorem mw_X12_layApart__24 : (.fieldLink RX12 71 "BallPotsModel" "turn" "[I" : Cond) ∈ wsX12_layApart := rl_wsX12_layApart_r1 _ (List.mem_of_getElem? (i := 23) rfl)
theorem mw_X12_layApart__25 : (.fieldLink RX12 288 "BallPotsModel" "parts" "I" : Cond) ∈ wsX12_layApart := rl_wsX12_layApart_r2 _ (List.mem_of_getElem? (i := 0) rfl)
theorem mw_X12_layApart__26 : (.fieldLink RX12 87 "BallPotsModel" "indexOf" "[I" : Cond) ∈ wsX12_layApart := rl_wsX12_layApart_r2 _ (List.mem_of_getElem? (i := 1) rfl)
theorem mw_X12_layApart__27 : (.methodLink RX12 311 yX12_layMasks : Cond) ∈ wsX12_layApart := rl_wsX12_layApart_r2 _ (List.mem_of_getElem? (i := 2) rfl)
theorem mw_X12_layApart__28 : (.instanceMethod yX12_layMasks : Cond) ∈ wsX12_layApart := rl_wsX12_layApart_r2 _ (List.mem_of_getElem? (i := 3) rfl)
theorem mw_X12_layApart__29 : (.selects RX12 yX12_layMasks yX12_layMasks : Cond) ∈ wsX12_layApart := rl_wsX12_layApart_r2 _ (List.mem_of_getElem? (i := 4) rfl)
theorem mw_X12_layApart__30 : (.code yX12_layMasks cX12_layMasks 6 none : Cond) ∈ wsX12_layApart := rl_wsX12_layApart_r2 _ (List.mem_of_getElem? (i := 5) rfl)
theorem mw_X12_layApart__31 : (.fieldLink RX12 80 "BallPotsModel" "mask" "[I" : Cond) ∈ wsX12_layApart := rl_wsX12_layApart_r2 _ (List.mem_of_getElem? (i := 6) rfl)
theorem mw_X12_layApart__32 : (.fieldLink RX12 90 "BallPotsModel" "having" "[I" : Cond) ∈ wsX12_layApart := rl_wsX12_layApart_r2 _ (List.mem_of_getElem? (i := 7) rfl)
theorem mw_X12_layApart__33 : (.fieldLink RX12 44 "BallPotsModel" "row" "[I" : Cond) ∈ wsX12_layApart := rl_wsX12_layApart_r2 _ (List.mem_of_getElem? (i := 8) rfl)
theorem mw_X12_layApart__34 : (.fieldLink RX12 93 "BallPotsModel" "power" "[I" : Cond) ∈ wsX12_layApart := rl_wsX12_layApart_r2 _ (List.mem_of_getElem? (i := 9) rfl)
theorem mw_X12_layApart__35 : (.methodLink RX12 254 yX12_rankIn : Cond) ∈ wsX12_layApart := rl_wsX12_layApart_r2 _ (List.mem_of_getElem? (i := 10) rfl)
theorem mw_X12_layApart__36 : (.instanceMethod yX12_rankIn : Cond) ∈ wsX12_layApart := rl_wsX12_layApart_r2 _ (List.mem_of_getElem? (i := 11) rfl)
theorem mw_X12_layApart__37 : (.selects RX12 yX12_rankIn yX12_rankIn : Cond) ∈ wsX12_layApart := rl_wsX12_layApart_r2 _ (List.mem_of_getElem? (i := 12) rfl)
theorem mw_X12_layApart__38 : (.code yX12_rankIn cX12_rankIn 5 (some .int) : Cond) ∈ wsX12_layApart := rl_wsX12_layApart_r2 _ (List.mem_of_getElem? (i := 13) rfl)
theorem mw_X12_layApart__39 : (.methodLink RX12 275 yX12_isAsPlaced : Cond) ∈ wsX12_layApart := rl_wsX12_layApart_r2 _ (List.mem_of_getElem? (i := 14) rfl)
theorem mw_X12_layApart__40 : (.instanceMethod yX12_isAsPlaced : Cond) ∈ wsX12_layApart := rl_wsX12_layApart_r2 _ (List.mem_of_getElem? (i := 15) rfl)
theorem mw_X12_layApart__41 : (.selects RX12 yX12_isAsPlaced yX12_isAsPlaced : Cond) ∈ wsX12_layApart := rl_wsX12_layApart_r2 _ (List.mem_of_getElem? (i := 16) rfl)
theorem mw_X12_layApart__42 : (.code yX12_isAsPlaced cX12_isAsPlaced 4 (some .boolean) : Cond) ∈ wsX12_layApart := rl_wsX12_layApart_r2 _ (List.mem_of_getElem? (i := 17) rfl)
theorem mw_X12_layApart__43 : (.fieldLink RX12 51 "BallPotsModel" "groupOf" "[B" : Cond) ∈ wsX12_layApart := rl_wsX12_layApart_r2 _ (List.mem_of_getElem? (i := 18) rfl)
theorem mw_X12_layApart__44 : (.fieldLink RX12 65 "BallPotsModel" "ballOf" "[I" : Cond) ∈ wsX12_layApart := rl_wsX12_layApart_r2 _ (List.mem_of_getElem? (i := 19) rfl)
theorem mw_X12_layApart__45 : (.fieldLink RX12 68 "BallPotsModel" "groupGot" "[I" : Cond) ∈ wsX12_layApart := rl_wsX12_layApart_r2 _ (List.mem_of_getElem? (i := 20) rfl)
theorem mw_X12_layApart__46 : (.methodLink RX12 314 yX12_placedPart : Cond) ∈ wsX12_layApart := rl_wsX12_layApart_r2 _ (List.mem_of_getElem? (i := 21) rfl)
theorem mw_X12_layApart__47 : (.instanceMethod yX12_placedPart : Cond) ∈ wsX12_layApart := rl_wsX12_layApart_r2 _ (List.mem_of_getElem? (i := 22) rfl)
theorem mw_X12_layApart__48 : (.selects RX12 yX12_placedPart yX12_placedPart : Cond) ∈ wsX12_layApart := rl_wsX12_layApart_r2 _ (List.mem_of_getElem? (i := 23) rfl)
theorem mw_X12_layApart__49 : (.code yX12_placedPart cX12_placedPart 5 (some .int) : Cond) ∈ wsX12_layApart := rl_wsX12_layApart_r3 _ (List.mem_of_getElem? (i := 0) rfl)
theorem mw_X12_layApart__50 : (.methodLink RX12 317 yX12_rankOf : Cond) ∈ wsX12_layApart := rl_wsX12_layApart_r3 _ (List.mem_of_getElem? (i := 1) rfl)
theorem mw_X12_layApart__51 : (.instanceMethod yX12_rankOf : Cond) ∈ wsX12_layApart := rl_wsX12_layApart_r3 _ (List.mem_of_getElem? (i := 2) rfl)
theorem mw_X12_layApart__52 : (.selects RX12 yX12_rankOf yX12_rankOf : Cond) ∈ wsX12_layApart := rl_wsX12_layApart_r3 _ (List.mem_of_getElem? (i := 3) rfl)
theorem mw_X12_layApart__53 : (.code yX12_rankOf cX12_rankOf 4 (some .int) : Cond) ∈ wsX12_layApart := rl_wsX12_layApart_r3 _ (List.mem_of_getElem? (i := 4) rfl)
theorem mw_X12_layApart__54 : (.methodLink RX12 294 yX12_agreeing : Cond) ∈ wsX12_layApart := rl_wsX12_layApart_r3 _ (List.mem_of_getElem? (i := 5) rfl)
theorem mw_X12_layApart__55 : (.instanceMethod yX12_agreeing : Cond) ∈ wsX12_layApart := rl_wsX12_layApart_r3 _ (List.mem_of_getElem? (i := 6) rfl)
theorem mw_X12_layApart__56 : (.selects RX12 yX12_agreeing yX12_agreeing : Cond) ∈ wsX12_layApart := rl_wsX12_layApart_r3 _ (List.mem_of_getElem? (i := 7) rfl)
theorem mw_X12_layApart__57 : (.code yX12_agreeing cX12_agreeing 5 (some .int) : Cond) ∈ wsX12_layApart := rl_wsX12_layApart_r3 _ (List.mem_of_getElem? (i := 8) rfl)
theorem mw_X12_layApart__58 : (.methodLink RX12 291 yX12_digit : Cond) ∈ wsX12_layApart := rl_wsX12_layApart_r3 _ (List.mem_of_getElem? (i := 9) rfl)
theorem mw_X12_layApart__59 : (.instanceMethod yX12_digit : Cond) ∈ wsX12_layApart := rl_wsX12_layApart_r3 _ (List.mem_of_getElem? (i := 10) rfl)
theorem mw_X12_layApart__60 : (.selects RX12 yX12_digit yX12_digit : Cond) ∈ wsX12_layApart := rl_wsX12_layApart_r3 _ (List.mem_of_getElem? (i := 11) rfl)
theorem mw_X12_layApart__61 : (.code yX12_digit cX12_digit 3 (some .int) : Cond) ∈ wsX12_layApart := rl_wsX12_layApart_r3 _ (List.mem_of_getElem? (i := 12) rfl)
theorem mw_X12_layApart__62 : (.methodLink RX12 320 yX12_pot : Cond) ∈ wsX12_layApart := rl_wsX12_layApart_r3 _ (List.mem_of_getElem? (i := 13) rfl)
theorem mw_X12_layApart__63 : (.instanceMethod yX12_pot : Cond) ∈ wsX12_layApart := rl_wsX12_layApart_r3 _ (List.mem_of_getElem? (i := 14) rfl)
theorem mw_X12_layApart__64 : (.selects RX12 yX12_pot yX12_pot : Cond) ∈ wsX12_layApart := rl_wsX12_layApart_r3 _ (List.mem_of_getElem? (i := 15) rfl)
theorem mw_X12_layApart__65 : (.code yX12_pot cX12_pot 9 none : Cond) ∈ wsX12_layApart := rl_wsX12_layApart_r3 _ (List.mem_of_getElem? (i := 16) rfl)
theorem mw_X12_layApart__66 : (.fieldLink RX12 96 "BallPotsModel" "part" "[J" : Cond) ∈ wsX12_layApart := rl_wsX12_layApart_r3 _ (List.mem_of_getElem? (i := 17) rfl)
theorem mw_X12_layApart__67 : (.methodLink RX12 300 yX12_comes : Cond) ∈ wsX12_layApart := rl_wsX12_layApart_r3 _ (List.mem_of_getElem? (i := 18) rfl)
theorem mw_X12_layApart__68 : (.instanceMethod yX12_comes : Cond) ∈ wsX12_layApart := rl_wsX12_layApart_r3 _ (List.mem_of_getElem? (i := 19) rfl)
theorem mw_X12_layApart__69 : (.selects RX12 yX12_comes yX12_comes : Cond) ∈ wsX12_layApart := rl_wsX12_layApart_r3 _ (List.mem_of_getElem? (i := 20) rfl)
theorem mw_X12_layApart__70 : (.code yX12_comes cX12_comes 10 none : Cond) ∈ wsX12_layApart := rl_wsX12_layApart_r3 _ (List.mem_of_getElem? (i := 21) rfl)
theorem mw_X12_layApart__71 : (.fieldLink RX12 74 "BallPotsModel" "look" "[I" : Cond) ∈ wsX12_layApart := rl_wsX12_layApart_r3 _ (List.mem_of_getElem? (i := 22) rfl)
theorem mw_X12_layApart__72 : (.methodLink RX12 297 yX12_share : Cond) ∈ wsX12_layApart := rl_wsX12_layApart_r3 _ (List.mem_of_getElem? (i := 23) rfl)
theorem mw_X12_layApart__73 : (.static yX12_share : Cond) ∈ wsX12_layApart := rl_wsX12_layApart_r4 _ (List.mem_of_getElem? (i := 0) rfl)
theorem mw_X12_layApart__74 : (.code yX12_share cX12_share 1 (some .int) : Cond) ∈ wsX12_layApart := rl_wsX12_layApart_r4 _ (List.mem_of_getElem? (i := 1) rfl)
theorem mw_X12_layApart__75 : (.methodLink RX12 337 yX12_allRows : Cond) ∈ wsX12_layApart := rl_wsX12_layApart_r4 _ (List.mem_of_getElem? (i := 2) rfl)
theorem mw_X12_layApart__76 : (.instanceMethod yX12_allRows : Cond) ∈ wsX12_layApart := rl_wsX12_layApart_r4 _ (List.mem_of_getElem? (i := 3) rfl)
theorem mw_X12_layApart__77 : (.selects RX12 yX12_allRows yX12_allRows : Cond) ∈ wsX12_layApart := rl_wsX12_layApart_r4 _ (List.mem_of_getElem? (i := 4) rfl)
theorem mw_X12_layApart__78 : (.code yX12_allRows cX12_allRows 4 (some .long) : Cond) ∈ wsX12_layApart := rl_wsX12_layApart_r4 _ (List.mem_of_getElem? (i := 5) rfl)
theorem mw_X12_layApart__79 : (.methodLink RX12 241 yX12_teams : Cond) ∈ wsX12_layApart := rl_wsX12_layApart_r4 _ (List.mem_of_getElem? (i := 6) rfl)
theorem mw_X12_layApart__80 : (.instanceMethod yX12_teams : Cond) ∈ wsX12_layApart := rl_wsX12_layApart_r4 _ (List.mem_of_getElem? (i := 7) rfl)
theorem mw_X12_layApart__81 : (.selects RX12 yX12_teams yX12_teams : Cond) ∈ wsX12_layApart := rl_wsX12_layApart_r4 _ (List.mem_of_getElem? (i := 8) rfl)
theorem mw_X12_layApart__82 : (.code yX12_teams cX12_teams 1 (some .int) : Cond) ∈ wsX12_layApart := rl_wsX12_layApart_r4 _ (List.mem_of_getElem? (i := 9) rfl)
theorem mw_X12_layApart__83 : (.methodLink RX12 333 yX12_pairRows : Cond) ∈ wsX12_layApart := rl_wsX12_layApart_r4 _ (List.mem_of_getElem? (i := 10) rfl)
theorem mw_X12_layApart__84 : (.instanceMethod yX12_pairRows : Cond) ∈ wsX12_layApart := rl_wsX12_layApart_r4 _ (List.mem_of_getElem? (i := 11) rfl)
theorem mw_X12_layApart__85 : (.selects RX12 yX12_pairRows yX12_pairRows : Cond) ∈ wsX12_layApart := rl_wsX12_layApart_r4 _ (List.mem_of_getElem? (i := 12) rfl)
theorem mw_X12_layApart__86 : (.code yX12_pairRows cX12_pairRows 6 (some .long) : Cond) ∈ wsX12_layApart := rl_wsX12_layApart_r4 _ (List.mem_of_getElem? (i := 13) rfl)
theorem mw_X12_layDraws__1 : (.fieldLink RX12 248 "BallPotsModel" "draws" "I" : Cond) ∈ wsX12_layDraws := List.mem_of_getElem? (i := 1) rfl
theorem mw_X12_layDraws__2 : (.fieldLink RX12 188 "BallPotsModel" "pots" "I" : Cond) ∈ wsX12_layDraws := List.mem_of_getElem? (i := 2) rfl
theorem mw_X12_layDraws__3 : (.fieldLink RX12 245 "BallPotsModel" "ranks" "I" : Cond) ∈ wsX12_layDraws := List.mem_of_getElem? (i := 3) rfl
theorem mw_X12_layDraws__4 : (.fieldLink RX12 251 "BallPotsModel" "lawful" "I" : Cond) ∈ wsX12_layDraws := List.mem_of_getElem? (i := 4) rfl
theorem mw_X12_layDraws__5 : (.fieldLink RX12 185 "BallPotsModel" "groups" "I" : Cond) ∈ wsX12_layDraws := List.mem_of_getElem? (i := 5) rfl
theorem mw_X12_layDraws__6 : (.fieldLink RX12 51 "BallPotsModel" "groupOf" "[B" : Cond) ∈ wsX12_layDraws := List.mem_of_getElem? (i := 6) rfl
theorem mw_X12_layDraws__7 : (.fieldLink RX12 44 "BallPotsModel" "row" "[I" : Cond) ∈ wsX12_layDraws := List.mem_of_getElem? (i := 7) rfl
theorem mw_X12_layDraws__8 : (.fieldLink RX12 47 "BallPotsModel" "breaks" "[I" : Cond) ∈ wsX12_layDraws := List.mem_of_getElem? (i := 8) rfl
theorem mw_X12_layDraws__9 : (.fieldLink RX12 225 "BallPotsModel" "bars" "I" : Cond) ∈ wsX12_layDraws := List.mem_of_getElem? (i := 9) rfl
theorem mw_X12_layDraws__10 : (.methodLink RX12 254 yX12_rankIn : Cond) ∈ wsX12_layDraws := List.mem_of_getElem? (i := 10) rfl
theorem mw_X12_layDraws__11 : (.instanceMethod yX12_rankIn : Cond) ∈ wsX12_layDraws := List.mem_of_getElem? (i := 11) rfl
theorem mw_X12_layDraws__12 : (.selects RX12 yX12_rankIn yX12_rankIn : Cond) ∈ wsX12_layDraws := List.mem_of_getElem? (i := 12) rfl
theorem mw_X12_layDraws__13 : (.initialized RX12 : Cond) ∈ wsX12_layDraws := List.mem_of_getElem? (i := 13) rfl
theorem mw_X12_layDraws__14 : (.code yX12_rankIn cX12_rankIn 5 (some .int) : Cond) ∈ wsX12_layDraws := List.mem_of_getElem? (i := 14) rfl
theorem mw_X12_layDraws__15 : (.methodLink RX12 257 yX12_isBroken : Cond) ∈ wsX12_layDraws := List.mem_of_getElem? (i := 15) rfl
theorem mw_X12_layDraws__16 : (.instanceMethod yX12_isBroken : Cond) ∈ wsX12_layDraws := List.mem_of_getElem? (i := 16) rfl
theorem mw_X12_layDraws__17 : (.selects RX12 yX12_isBroken yX12_isBroken : Cond) ∈ wsX12_layDraws := List.mem_of_getElem? (i := 17) rfl
theorem mw_X12_layDraws__18 : (.code yX12_isBroken cX12_isBroken 8 (some .boolean) : Cond) ∈ wsX12_layDraws := List.mem_of_getElem? (i := 18) rfl
theorem mw_X12_layDraws__19 : (.fieldLink RX12 29 "BallPotsModel" "bar" "[I" : Cond) ∈ wsX12_layDraws := List.mem_of_getElem? (i := 19) rfl
theorem mw_X12_layDraws__20 : (.fieldLink RX12 26 "BallPotsModel" "marked" "[I" : Cond) ∈ wsX12_layDraws := List.mem_of_getElem? (i := 20) rfl
theorem mw_X12_layDraws__21 : (.methodLink RX12 241 yX12_teams : Cond) ∈ wsX12_layDraws := List.mem_of_getElem? (i := 21) rfl
theorem mw_X12_layDraws__22 : (.instanceMethod yX12_teams : Cond) ∈ wsX12_layDraws := List.mem_of_getElem? (i := 22) rfl
theorem mw_X12_layDraws__23 : (.selects RX12 yX12_teams yX12_teams : Cond) ∈ wsX12_layDraws := List.mem_of_getElem? (i := 23) rfl
theorem mw_X12_layDraws__24 : (.code yX12_teams cX12_teams 1 (some .int) : Cond) ∈ wsX12_layDraws := List.mem_of_getElem? (i := 24) rfl
theorem mw_X12_layMasks__1 : (.fieldLink RX12 77 "BallPotsModel" "level" "[I" : Cond) ∈ wsX12_layMasks := List.mem_of_getElem? (i := 1) rfl
theorem mw_X12_layMasks__2 : (.fieldLink RX12 188 "BallPotsModel" "pots" "I" : Cond) ∈ wsX12_layMasks := List.mem_of_getElem? (i := 2) rfl
theorem mw_X12_layMasks__3 : (.fieldLink RX12 245 "BallPotsModel" "ranks" "I" : Cond) ∈ wsX12_layMasks := List.mem_of_getElem? (i := 3) rfl
theorem mw_X12_layMasks__4 : (.fieldLink RX12 80 "BallPotsModel" "mask" "[I" : Cond) ∈ wsX12_layMasks := List.mem_of_getElem? (i := 4) rfl
theorem mw_X12_layMasks__5 : (.fieldLink RX12 248 "BallPotsModel" "draws" "I" : Cond) ∈ wsX12_layMasks := List.mem_of_getElem? (i := 5) rfl
theorem mw_X12_layMasks__6 : (.fieldLink RX12 47 "BallPotsModel" "breaks" "[I" : Cond) ∈ wsX12_layMasks := List.mem_of_getElem? (i := 6) rfl
theorem mw_X12_layMasks__7 : (.fieldLink RX12 71 "BallPotsModel" "turn" "[I" : Cond) ∈ wsX12_layMasks := List.mem_of_getElem? (i := 7) rfl
theorem mw_X12_layMasks__8 : (.fieldLink RX12 87 "BallPotsModel" "indexOf" "[I" : Cond) ∈ wsX12_layMasks := List.mem_of_getElem? (i := 8) rfl
theorem mw_X12_layMasks__9 : (.fieldLink RX12 90 "BallPotsModel" "having" "[I" : Cond) ∈ wsX12_layMasks := List.mem_of_getElem? (i := 9) rfl
theorem mw_X12_layMasks__10 : (.fieldLink RX12 185 "BallPotsModel" "groups" "I" : Cond) ∈ wsX12_layMasks := List.mem_of_getElem? (i := 10) rfl
theorem mw_X12_layMasks__11 : (.fieldLink RX12 44 "BallPotsModel" "row" "[I" : Cond) ∈ wsX12_layMasks := List.mem_of_getElem? (i := 11) rfl
theorem mw_X12_layMasks__12 : (.fieldLink RX12 288 "BallPotsModel" "parts" "I" : Cond) ∈ wsX12_layMasks := List.mem_of_getElem? (i := 12) rfl
theorem mw_X12_layMasks__13 : (.fieldLink RX12 93 "BallPotsModel" "power" "[I" : Cond) ∈ wsX12_layMasks := List.mem_of_getElem? (i := 13) rfl
theorem mw_X12_layMasks__14 : (.methodLink RX12 254 yX12_rankIn : Cond) ∈ wsX12_layMasks := List.mem_of_getElem? (i := 14) rfl
theorem mw_X12_layMasks__15 : (.instanceMethod yX12_rankIn : Cond) ∈ wsX12_layMasks := List.mem_of_getElem? (i := 15) rfl
theorem mw_X12_layMasks__16 : (.selects RX12 yX12_rankIn yX12_rankIn : Cond) ∈ wsX12_layMasks := List.mem_of_getElem? (i := 16) rfl
theorem mw_X12_layMasks__17 : (.initialized RX12 : Cond) ∈ wsX12_layMasks := List.mem_of_getElem? (i := 17) rfl
theorem mw_X12_layMasks__18 : (.code yX12_rankIn cX12_rankIn 5 (some .int) : Cond) ∈ wsX12_layMasks := List.mem_of_getElem? (i := 18) rfl
theorem mw_X12_layRows__1 : (.fieldLink RX12 245 "BallPotsModel" "ranks" "I" : Cond) ∈ wsX12_layRows := List.mem_of_getElem? (i := 1) rfl
theorem mw_X12_layRows__2 : (.fieldLink RX12 185 "BallPotsModel" "groups" "I" : Cond) ∈ wsX12_layRows := List.mem_of_getElem? (i := 2) rfl
theorem mw_X12_layRows__3 : (.fieldLink RX12 44 "BallPotsModel" "row" "[I" : Cond) ∈ wsX12_layRows := List.mem_of_getElem? (i := 3) rfl
theorem mw_X12_layStage__1 : (.fieldLink RX12 102 "BallPotsModel" "laid" "I" : Cond) ∈ wsX12_layStage := rl_wsX12_layStage_r1 _ (List.mem_of_getElem? (i := 0) rfl)
theorem mw_X12_layStage__2 : (.methodLink RX12 304 yX12_turnsAs : Cond) ∈ wsX12_layStage := rl_wsX12_layStage_r1 _ (List.mem_of_getElem? (i := 1) rfl)
theorem mw_X12_layStage__3 : (.instanceMethod yX12_turnsAs : Cond) ∈ wsX12_layStage := rl_wsX12_layStage_r1 _ (List.mem_of_getElem? (i := 2) rfl)
theorem mw_X12_layStage__4 : (.selects RX12 yX12_turnsAs yX12_turnsAs : Cond) ∈ wsX12_layStage := rl_wsX12_layStage_r1 _ (List.mem_of_getElem? (i := 3) rfl)
theorem mw_X12_layStage__5 : (.initialized RX12 : Cond) ∈ wsX12_layStage := rl_wsX12_layStage_r1 _ (List.mem_of_getElem? (i := 4) rfl)
theorem mw_X12_layStage__6 : (.code yX12_turnsAs cX12_turnsAs 2 none : Cond) ∈ wsX12_layStage := rl_wsX12_layStage_r1 _ (List.mem_of_getElem? (i := 5) rfl)
theorem mw_X12_layStage__7 : (.fieldLink RX12 71 "BallPotsModel" "turn" "[I" : Cond) ∈ wsX12_layStage := rl_wsX12_layStage_r1 _ (List.mem_of_getElem? (i := 6) rfl)
theorem mw_X12_layStage__8 : (.fieldLink RX12 59 "BallPotsModel" "order" "[I" : Cond) ∈ wsX12_layStage := rl_wsX12_layStage_r1 _ (List.mem_of_getElem? (i := 7) rfl)
theorem mw_X12_layStage__9 : (.fieldLink RX12 74 "BallPotsModel" "look" "[I" : Cond) ∈ wsX12_layStage := rl_wsX12_layStage_r1 _ (List.mem_of_getElem? (i := 8) rfl)
theorem mw_X12_layStage__10 : (.fieldLink RX12 62 "BallPotsModel" "arranged" "[I" : Cond) ∈ wsX12_layStage := rl_wsX12_layStage_r1 _ (List.mem_of_getElem? (i := 9) rfl)
theorem mw_X12_layStage__11 : (.methodLink RX12 307 yX12_layWeights : Cond) ∈ wsX12_layStage := rl_wsX12_layStage_r1 _ (List.mem_of_getElem? (i := 10) rfl)
theorem mw_X12_layStage__12 : (.instanceMethod yX12_layWeights : Cond) ∈ wsX12_layStage := rl_wsX12_layStage_r1 _ (List.mem_of_getElem? (i := 11) rfl)
theorem mw_X12_layStage__13 : (.selects RX12 yX12_layWeights yX12_layWeights : Cond) ∈ wsX12_layStage := rl_wsX12_layStage_r1 _ (List.mem_of_getElem? (i := 12) rfl)
theorem mw_X12_layStage__14 : (.code yX12_layWeights cX12_layWeights 10 none : Cond) ∈ wsX12_layStage := rl_wsX12_layStage_r1 _ (List.mem_of_getElem? (i := 13) rfl)
theorem mw_X12_layStage__15 : (.fieldLink RX12 234 "BallPotsModel" "out" "I" : Cond) ∈ wsX12_layStage := rl_wsX12_layStage_r1 _ (List.mem_of_getElem? (i := 14) rfl)
theorem mw_X12_layStage__16 : (.fieldLink RX12 248 "BallPotsModel" "draws" "I" : Cond) ∈ wsX12_layStage := rl_wsX12_layStage_r1 _ (List.mem_of_getElem? (i := 15) rfl)
theorem mw_X12_layStage__17 : (.fieldLink RX12 99 "BallPotsModel" "weight" "[J" : Cond) ∈ wsX12_layStage := rl_wsX12_layStage_r1 _ (List.mem_of_getElem? (i := 16) rfl)
theorem mw_X12_layStage__18 : (.fieldLink RX12 47 "BallPotsModel" "breaks" "[I" : Cond) ∈ wsX12_layStage := rl_wsX12_layStage_r1 _ (List.mem_of_getElem? (i := 17) rfl)
theorem mw_X12_layStage__19 : (.fieldLink RX12 251 "BallPotsModel" "lawful" "I" : Cond) ∈ wsX12_layStage := rl_wsX12_layStage_r1 _ (List.mem_of_getElem? (i := 18) rfl)
theorem mw_X12_layStage__20 : (.fieldLink RX12 77 "BallPotsModel" "level" "[I" : Cond) ∈ wsX12_layStage := rl_wsX12_layStage_r1 _ (List.mem_of_getElem? (i := 19) rfl)
theorem mw_X12_layStage__21 : (.fieldLink RX12 188 "BallPotsModel" "pots" "I" : Cond) ∈ wsX12_layStage := rl_wsX12_layStage_r1 _ (List.mem_of_getElem? (i := 20) rfl)
theorem mw_X12_layStage__22 : (.fieldLink RX12 83 "BallPotsModel" "ways" "[J" : Cond) ∈ wsX12_layStage := rl_wsX12_layStage_r1 _ (List.mem_of_getElem? (i := 21) rfl)
theorem mw_X12_layStage__23 : (.fieldLink RX12 185 "BallPotsModel" "groups" "I" : Cond) ∈ wsX12_layStage := rl_wsX12_layStage_r1 _ (List.mem_of_getElem? (i := 22) rfl)
theorem mw_X12_layStage__24 : (.fieldLink RX12 245 "BallPotsModel" "ranks" "I" : Cond) ∈ wsX12_layStage := rl_wsX12_layStage_r1 _ (List.mem_of_getElem? (i := 23) rfl)
theorem mw_X12_layStage__25 : (.fieldLink RX12 288 "BallPotsModel" "parts" "I" : Cond) ∈ wsX12_layStage := rl_wsX12_layStage_r2 _ (List.mem_of_getElem? (i := 0) rfl)
theorem mw_X12_layStage__26 : (.fieldLink RX12 87 "BallPotsModel" "indexOf" "[I" : Cond) ∈ wsX12_layStage := rl_wsX12_layStage_r2 _ (List.mem_of_getElem? (i := 1) rfl)
theorem mw_X12_layStage__27 : (.methodLink RX12 311 yX12_layMasks : Cond) ∈ wsX12_layStage := rl_wsX12_layStage_r2 _ (List.mem_of_getElem? (i := 2) rfl)
theorem mw_X12_layStage__28 : (.instanceMethod yX12_layMasks : Cond) ∈ wsX12_layStage := rl_wsX12_layStage_r2 _ (List.mem_of_getElem? (i := 3) rfl)
theorem mw_X12_layStage__29 : (.selects RX12 yX12_layMasks yX12_layMasks : Cond) ∈ wsX12_layStage := rl_wsX12_layStage_r2 _ (List.mem_of_getElem? (i := 4) rfl)
theorem mw_X12_layStage__30 : (.code yX12_layMasks cX12_layMasks 6 none : Cond) ∈ wsX12_layStage := rl_wsX12_layStage_r2 _ (List.mem_of_getElem? (i := 5) rfl)
theorem mw_X12_layStage__31 : (.fieldLink RX12 80 "BallPotsModel" "mask" "[I" : Cond) ∈ wsX12_layStage := rl_wsX12_layStage_r2 _ (List.mem_of_getElem? (i := 6) rfl)
theorem mw_X12_layStage__32 : (.fieldLink RX12 90 "BallPotsModel" "having" "[I" : Cond) ∈ wsX12_layStage := rl_wsX12_layStage_r2 _ (List.mem_of_getElem? (i := 7) rfl)
theorem mw_X12_layStage__33 : (.fieldLink RX12 44 "BallPotsModel" "row" "[I" : Cond) ∈ wsX12_layStage := rl_wsX12_layStage_r2 _ (List.mem_of_getElem? (i := 8) rfl)
theorem mw_X12_layStage__34 : (.fieldLink RX12 93 "BallPotsModel" "power" "[I" : Cond) ∈ wsX12_layStage := rl_wsX12_layStage_r2 _ (List.mem_of_getElem? (i := 9) rfl)
theorem mw_X12_layStage__35 : (.methodLink RX12 254 yX12_rankIn : Cond) ∈ wsX12_layStage := rl_wsX12_layStage_r2 _ (List.mem_of_getElem? (i := 10) rfl)
theorem mw_X12_layStage__36 : (.instanceMethod yX12_rankIn : Cond) ∈ wsX12_layStage := rl_wsX12_layStage_r2 _ (List.mem_of_getElem? (i := 11) rfl)
theorem mw_X12_layStage__37 : (.selects RX12 yX12_rankIn yX12_rankIn : Cond) ∈ wsX12_layStage := rl_wsX12_layStage_r2 _ (List.mem_of_getElem? (i := 12) rfl)
theorem mw_X12_layStage__38 : (.code yX12_rankIn cX12_rankIn 5 (some .int) : Cond) ∈ wsX12_layStage := rl_wsX12_layStage_r2 _ (List.mem_of_getElem? (i := 13) rfl)
theorem mw_X12_layStage__39 : (.methodLink RX12 275 yX12_isAsPlaced : Cond) ∈ wsX12_layStage := rl_wsX12_layStage_r2 _ (List.mem_of_getElem? (i := 14) rfl)
theorem mw_X12_layStage__40 : (.instanceMethod yX12_isAsPlaced : Cond) ∈ wsX12_layStage := rl_wsX12_layStage_r2 _ (List.mem_of_getElem? (i := 15) rfl)
theorem mw_X12_layStage__41 : (.selects RX12 yX12_isAsPlaced yX12_isAsPlaced : Cond) ∈ wsX12_layStage := rl_wsX12_layStage_r2 _ (List.mem_of_getElem? (i := 16) rfl)
theorem mw_X12_layStage__42 : (.code yX12_isAsPlaced cX12_isAsPlaced 4 (some .boolean) : Cond) ∈ wsX12_layStage := rl_wsX12_layStage_r2 _ (List.mem_of_getElem? (i := 17) rfl)
theorem mw_X12_layStage__43 : (.fieldLink RX12 51 "BallPotsModel" "groupOf" "[B" : Cond) ∈ wsX12_layStage := rl_wsX12_layStage_r2 _ (List.mem_of_getElem? (i := 18) rfl)
theorem mw_X12_layStage__44 : (.fieldLink RX12 65 "BallPotsModel" "ballOf" "[I" : Cond) ∈ wsX12_layStage := rl_wsX12_layStage_r2 _ (List.mem_of_getElem? (i := 19) rfl)
theorem mw_X12_layStage__45 : (.fieldLink RX12 68 "BallPotsModel" "groupGot" "[I" : Cond) ∈ wsX12_layStage := rl_wsX12_layStage_r2 _ (List.mem_of_getElem? (i := 20) rfl)
theorem mw_X12_layStage__46 : (.methodLink RX12 314 yX12_placedPart : Cond) ∈ wsX12_layStage := rl_wsX12_layStage_r2 _ (List.mem_of_getElem? (i := 21) rfl)
theorem mw_X12_layStage__47 : (.instanceMethod yX12_placedPart : Cond) ∈ wsX12_layStage := rl_wsX12_layStage_r2 _ (List.mem_of_getElem? (i := 22) rfl)
theorem mw_X12_layStage__48 : (.selects RX12 yX12_placedPart yX12_placedPart : Cond) ∈ wsX12_layStage := rl_wsX12_layStage_r2 _ (List.mem_of_getElem? (i := 23) rfl)
theorem mw_X12_layStage__49 : (.code yX12_placedPart cX12_placedPart 5 (some .int) : Cond) ∈ wsX12_layStage := rl_wsX12_layStage_r3 _ (List.mem_of_getElem? (i := 0) rfl)
theorem mw_X12_layStage__50 : (.methodLink RX12 317 yX12_rankOf : Cond) ∈ wsX12_layStage := rl_wsX12_layStage_r3 _ (List.mem_of_getElem? (i := 1) rfl)
theorem mw_X12_layStage__51 : (.instanceMethod yX12_rankOf : Cond) ∈ wsX12_layStage := rl_wsX12_layStage_r3 _ (List.mem_of_getElem? (i := 2) rfl)
theorem mw_X12_layStage__52 : (.selects RX12 yX12_rankOf yX12_rankOf : Cond) ∈ wsX12_layStage := rl_wsX12_layStage_r3 _ (List.mem_of_getElem? (i := 3) rfl)
theorem mw_X12_layStage__53 : (.code yX12_rankOf cX12_rankOf 4 (some .int) : Cond) ∈ wsX12_layStage := rl_wsX12_layStage_r3 _ (List.mem_of_getElem? (i := 4) rfl)
theorem mw_X12_layStage__54 : (.methodLink RX12 294 yX12_agreeing : Cond) ∈ wsX12_layStage := rl_wsX12_layStage_r3 _ (List.mem_of_getElem? (i := 5) rfl)
theorem mw_X12_layStage__55 : (.instanceMethod yX12_agreeing : Cond) ∈ wsX12_layStage := rl_wsX12_layStage_r3 _ (List.mem_of_getElem? (i := 6) rfl)
theorem mw_X12_layStage__56 : (.selects RX12 yX12_agreeing yX12_agreeing : Cond) ∈ wsX12_layStage := rl_wsX12_layStage_r3 _ (List.mem_of_getElem? (i := 7) rfl)
theorem mw_X12_layStage__57 : (.code yX12_agreeing cX12_agreeing 5 (some .int) : Cond) ∈ wsX12_layStage := rl_wsX12_layStage_r3 _ (List.mem_of_getElem? (i := 8) rfl)
theorem mw_X12_layStage__58 : (.methodLink RX12 291 yX12_digit : Cond) ∈ wsX12_layStage := rl_wsX12_layStage_r3 _ (List.mem_of_getElem? (i := 9) rfl)
theorem mw_X12_layStage__59 : (.instanceMethod yX12_digit : Cond) ∈ wsX12_layStage := rl_wsX12_layStage_r3 _ (List.mem_of_getElem? (i := 10) rfl)
theorem mw_X12_layStage__60 : (.selects RX12 yX12_digit yX12_digit : Cond) ∈ wsX12_layStage := rl_wsX12_layStage_r3 _ (List.mem_of_getElem? (i := 11) rfl)
theorem mw_X12_layStage__61 : (.code yX12_digit cX12_digit 3 (some .int) : Cond) ∈ wsX12_layStage := rl_wsX12_layStage_r3 _ (List.mem_of_getElem? (i := 12) rfl)
theorem mw_X12_layStage__62 : (.methodLink RX12 320 yX12_pot : Cond) ∈ wsX12_layStage := rl_wsX12_layStage_r3 _ (List.mem_of_getElem? (i := 13) rfl)
theorem mw_X12_layStage__63 : (.instanceMethod yX12_pot : Cond) ∈ wsX12_layStage := rl_wsX12_layStage_r3 _ (List.mem_of_getElem? (i := 14) rfl)
theorem mw_X12_layStage__64 : (.selects RX12 yX12_pot yX12_pot : Cond) ∈ wsX12_layStage := rl_wsX12_layStage_r3 _ (List.mem_of_getElem? (i := 15) rfl)
theorem mw_X12_layStage__65 : (.code yX12_pot cX12_pot 9 none : Cond) ∈ wsX12_layStage := rl_wsX12_layStage_r3 _ (List.mem_of_getElem? (i := 16) rfl)
theorem mw_X12_layStage__66 : (.fieldLink RX12 96 "BallPotsModel" "part" "[J" : Cond) ∈ wsX12_layStage := rl_wsX12_layStage_r3 _ (List.mem_of_getElem? (i := 17) rfl)
theorem mw_X12_layStage__67 : (.methodLink RX12 300 yX12_comes : Cond) ∈ wsX12_layStage := rl_wsX12_layStage_r3 _ (List.mem_of_getElem? (i := 18) rfl)
theorem mw_X12_layStage__68 : (.instanceMethod yX12_comes : Cond) ∈ wsX12_layStage := rl_wsX12_layStage_r3 _ (List.mem_of_getElem? (i := 19) rfl)
theorem mw_X12_layStage__69 : (.selects RX12 yX12_comes yX12_comes : Cond) ∈ wsX12_layStage := rl_wsX12_layStage_r3 _ (List.mem_of_getElem? (i := 20) rfl)
theorem mw_X12_layStage__70 : (.code yX12_comes cX12_comes 10 none : Cond) ∈ wsX12_layStage := rl_wsX12_layStage_r3 _ (List.mem_of_getElem? (i := 21) rfl)
theorem mw_X12_layStage__71 : (.methodLink RX12 297 yX12_share : Cond) ∈ wsX12_layStage := rl_wsX12_layStage_r3 _ (List.mem_of_getElem? (i := 22) rfl)
theorem mw_X12_layStage__72 : (.static yX12_share : Cond) ∈ wsX12_layStage := rl_wsX12_layStage_r3 _ (List.mem_of_getElem? (i := 23) rfl)
theorem mw_X12_layStage__73 : (.code yX12_share cX12_share 1 (some .int) : Cond) ∈ wsX12_layStage := rl_wsX12_layStage_r4 _ (List.mem_of_getElem? (i := 0) rfl)
theorem mw_X12_laySwaps__1 : (.fieldLink RX12 188 "BallPotsModel" "pots" "I" : Cond) ∈ wsX12_laySwaps := rl_wsX12_laySwaps_r1 _ (List.mem_of_getElem? (i := 0) rfl)
theorem mw_X12_laySwaps__2 : (.fieldLink RX12 114 "BallPotsModel" "step" "[I" : Cond) ∈ wsX12_laySwaps := rl_wsX12_laySwaps_r1 _ (List.mem_of_getElem? (i := 1) rfl)
theorem mw_X12_laySwaps__3 : (.fieldLink RX12 245 "BallPotsModel" "ranks" "I" : Cond) ∈ wsX12_laySwaps := rl_wsX12_laySwaps_r1 _ (List.mem_of_getElem? (i := 2) rfl)
theorem mw_X12_laySwaps__4 : (.fieldLink RX12 185 "BallPotsModel" "groups" "I" : Cond) ∈ wsX12_laySwaps := rl_wsX12_laySwaps_r1 _ (List.mem_of_getElem? (i := 3) rfl)
theorem mw_X12_laySwaps__5 : (.fieldLink RX12 44 "BallPotsModel" "row" "[I" : Cond) ∈ wsX12_laySwaps := rl_wsX12_laySwaps_r1 _ (List.mem_of_getElem? (i := 4) rfl)
theorem mw_X12_laySwaps__6 : (.fieldLink RX12 93 "BallPotsModel" "power" "[I" : Cond) ∈ wsX12_laySwaps := rl_wsX12_laySwaps_r1 _ (List.mem_of_getElem? (i := 5) rfl)
theorem mw_X12_laySwaps__7 : (.fieldLink RX12 117 "BallPotsModel" "turned" "[I" : Cond) ∈ wsX12_laySwaps := rl_wsX12_laySwaps_r1 _ (List.mem_of_getElem? (i := 6) rfl)
theorem mw_X12_laySwaps__8 : (.methodLink RX12 304 yX12_turnsAs : Cond) ∈ wsX12_laySwaps := rl_wsX12_laySwaps_r1 _ (List.mem_of_getElem? (i := 7) rfl)
theorem mw_X12_laySwaps__9 : (.instanceMethod yX12_turnsAs : Cond) ∈ wsX12_laySwaps := rl_wsX12_laySwaps_r1 _ (List.mem_of_getElem? (i := 8) rfl)
theorem mw_X12_laySwaps__10 : (.selects RX12 yX12_turnsAs yX12_turnsAs : Cond) ∈ wsX12_laySwaps := rl_wsX12_laySwaps_r1 _ (List.mem_of_getElem? (i := 9) rfl)
theorem mw_X12_laySwaps__11 : (.initialized RX12 : Cond) ∈ wsX12_laySwaps := rl_wsX12_laySwaps_r1 _ (List.mem_of_getElem? (i := 10) rfl)
theorem mw_X12_laySwaps__12 : (.code yX12_turnsAs cX12_turnsAs 2 none : Cond) ∈ wsX12_laySwaps := rl_wsX12_laySwaps_r1 _ (List.mem_of_getElem? (i := 11) rfl)
theorem mw_X12_laySwaps__13 : (.fieldLink RX12 71 "BallPotsModel" "turn" "[I" : Cond) ∈ wsX12_laySwaps := rl_wsX12_laySwaps_r1 _ (List.mem_of_getElem? (i := 12) rfl)
theorem mw_X12_laySwaps__14 : (.fieldLink RX12 59 "BallPotsModel" "order" "[I" : Cond) ∈ wsX12_laySwaps := rl_wsX12_laySwaps_r1 _ (List.mem_of_getElem? (i := 13) rfl)
theorem mw_X12_laySwaps__15 : (.fieldLink RX12 74 "BallPotsModel" "look" "[I" : Cond) ∈ wsX12_laySwaps := rl_wsX12_laySwaps_r1 _ (List.mem_of_getElem? (i := 14) rfl)
theorem mw_X12_laySwaps__16 : (.fieldLink RX12 62 "BallPotsModel" "arranged" "[I" : Cond) ∈ wsX12_laySwaps := rl_wsX12_laySwaps_r1 _ (List.mem_of_getElem? (i := 15) rfl)
theorem mw_X12_laySwaps__17 : (.methodLink RX12 311 yX12_layMasks : Cond) ∈ wsX12_laySwaps := rl_wsX12_laySwaps_r1 _ (List.mem_of_getElem? (i := 16) rfl)
theorem mw_X12_laySwaps__18 : (.instanceMethod yX12_layMasks : Cond) ∈ wsX12_laySwaps := rl_wsX12_laySwaps_r1 _ (List.mem_of_getElem? (i := 17) rfl)
theorem mw_X12_laySwaps__19 : (.selects RX12 yX12_layMasks yX12_layMasks : Cond) ∈ wsX12_laySwaps := rl_wsX12_laySwaps_r1 _ (List.mem_of_getElem? (i := 18) rfl)
theorem mw_X12_laySwaps__20 : (.code yX12_layMasks cX12_layMasks 6 none : Cond) ∈ wsX12_laySwaps := rl_wsX12_laySwaps_r1 _ (List.mem_of_getElem? (i := 19) rfl)
theorem mw_X12_laySwaps__21 : (.fieldLink RX12 77 "BallPotsModel" "level" "[I" : Cond) ∈ wsX12_laySwaps := rl_wsX12_laySwaps_r1 _ (List.mem_of_getElem? (i := 20) rfl)
theorem mw_X12_laySwaps__22 : (.fieldLink RX12 80 "BallPotsModel" "mask" "[I" : Cond) ∈ wsX12_laySwaps := rl_wsX12_laySwaps_r1 _ (List.mem_of_getElem? (i := 21) rfl)
theorem mw_X12_laySwaps__23 : (.fieldLink RX12 248 "BallPotsModel" "draws" "I" : Cond) ∈ wsX12_laySwaps := rl_wsX12_laySwaps_r1 _ (List.mem_of_getElem? (i := 22) rfl)
theorem mw_X12_laySwaps__24 : (.fieldLink RX12 47 "BallPotsModel" "breaks" "[I" : Cond) ∈ wsX12_laySwaps := rl_wsX12_laySwaps_r1 _ (List.mem_of_getElem? (i := 23) rfl)
theorem mw_X12_laySwaps__25 : (.fieldLink RX12 87 "BallPotsModel" "indexOf" "[I" : Cond) ∈ wsX12_laySwaps := rl_wsX12_laySwaps_r2 _ (List.mem_of_getElem? (i := 0) rfl)
theorem mw_X12_laySwaps__26 : (.fieldLink RX12 90 "BallPotsModel" "having" "[I" : Cond) ∈ wsX12_laySwaps := rl_wsX12_laySwaps_r2 _ (List.mem_of_getElem? (i := 1) rfl)
theorem mw_X12_laySwaps__27 : (.fieldLink RX12 288 "BallPotsModel" "parts" "I" : Cond) ∈ wsX12_laySwaps := rl_wsX12_laySwaps_r2 _ (List.mem_of_getElem? (i := 2) rfl)
theorem mw_X12_laySwaps__28 : (.methodLink RX12 254 yX12_rankIn : Cond) ∈ wsX12_laySwaps := rl_wsX12_laySwaps_r2 _ (List.mem_of_getElem? (i := 3) rfl)
theorem mw_X12_laySwaps__29 : (.instanceMethod yX12_rankIn : Cond) ∈ wsX12_laySwaps := rl_wsX12_laySwaps_r2 _ (List.mem_of_getElem? (i := 4) rfl)
theorem mw_X12_laySwaps__30 : (.selects RX12 yX12_rankIn yX12_rankIn : Cond) ∈ wsX12_laySwaps := rl_wsX12_laySwaps_r2 _ (List.mem_of_getElem? (i := 5) rfl)
theorem mw_X12_laySwaps__31 : (.code yX12_rankIn cX12_rankIn 5 (some .int) : Cond) ∈ wsX12_laySwaps := rl_wsX12_laySwaps_r2 _ (List.mem_of_getElem? (i := 6) rfl)
theorem mw_X12_laySwaps__32 : (.methodLink RX12 317 yX12_rankOf : Cond) ∈ wsX12_laySwaps := rl_wsX12_laySwaps_r2 _ (List.mem_of_getElem? (i := 7) rfl)
theorem mw_X12_laySwaps__33 : (.instanceMethod yX12_rankOf : Cond) ∈ wsX12_laySwaps := rl_wsX12_laySwaps_r2 _ (List.mem_of_getElem? (i := 8) rfl)
theorem mw_X12_laySwaps__34 : (.selects RX12 yX12_rankOf yX12_rankOf : Cond) ∈ wsX12_laySwaps := rl_wsX12_laySwaps_r2 _ (List.mem_of_getElem? (i := 9) rfl)
theorem mw_X12_laySwaps__35 : (.code yX12_rankOf cX12_rankOf 4 (some .int) : Cond) ∈ wsX12_laySwaps := rl_wsX12_laySwaps_r2 _ (List.mem_of_getElem? (i := 10) rfl)
theorem mw_X12_laySwaps__36 : (.methodLink RX12 294 yX12_agreeing : Cond) ∈ wsX12_laySwaps := rl_wsX12_laySwaps_r2 _ (List.mem_of_getElem? (i := 11) rfl)
theorem mw_X12_laySwaps__37 : (.instanceMethod yX12_agreeing : Cond) ∈ wsX12_laySwaps := rl_wsX12_laySwaps_r2 _ (List.mem_of_getElem? (i := 12) rfl)
theorem mw_X12_laySwaps__38 : (.selects RX12 yX12_agreeing yX12_agreeing : Cond) ∈ wsX12_laySwaps := rl_wsX12_laySwaps_r2 _ (List.mem_of_getElem? (i := 13) rfl)
theorem mw_X12_laySwaps__39 : (.code yX12_agreeing cX12_agreeing 5 (some .int) : Cond) ∈ wsX12_laySwaps := rl_wsX12_laySwaps_r2 _ (List.mem_of_getElem? (i := 14) rfl)
theorem mw_X12_laySwaps__40 : (.methodLink RX12 291 yX12_digit : Cond) ∈ wsX12_laySwaps := rl_wsX12_laySwaps_r2 _ (List.mem_of_getElem? (i := 15) rfl)
theorem mw_X12_laySwaps__41 : (.instanceMethod yX12_digit : Cond) ∈ wsX12_laySwaps := rl_wsX12_laySwaps_r2 _ (List.mem_of_getElem? (i := 16) rfl)
theorem mw_X12_laySwaps__42 : (.selects RX12 yX12_digit yX12_digit : Cond) ∈ wsX12_laySwaps := rl_wsX12_laySwaps_r2 _ (List.mem_of_getElem? (i := 17) rfl)
theorem mw_X12_laySwaps__43 : (.code yX12_digit cX12_digit 3 (some .int) : Cond) ∈ wsX12_laySwaps := rl_wsX12_laySwaps_r2 _ (List.mem_of_getElem? (i := 18) rfl)
theorem mw_X12_layWeights__1 : (.fieldLink RX12 102 "BallPotsModel" "laid" "I" : Cond) ∈ wsX12_layWeights := rl_wsX12_layWeights_r1 _ (List.mem_of_getElem? (i := 0) rfl)
theorem mw_X12_layWeights__2 : (.fieldLink RX12 234 "BallPotsModel" "out" "I" : Cond) ∈ wsX12_layWeights := rl_wsX12_layWeights_r1 _ (List.mem_of_getElem? (i := 1) rfl)
theorem mw_X12_layWeights__3 : (.fieldLink RX12 248 "BallPotsModel" "draws" "I" : Cond) ∈ wsX12_layWeights := rl_wsX12_layWeights_r1 _ (List.mem_of_getElem? (i := 2) rfl)
theorem mw_X12_layWeights__4 : (.fieldLink RX12 99 "BallPotsModel" "weight" "[J" : Cond) ∈ wsX12_layWeights := rl_wsX12_layWeights_r1 _ (List.mem_of_getElem? (i := 3) rfl)
theorem mw_X12_layWeights__5 : (.fieldLink RX12 47 "BallPotsModel" "breaks" "[I" : Cond) ∈ wsX12_layWeights := rl_wsX12_layWeights_r1 _ (List.mem_of_getElem? (i := 4) rfl)
theorem mw_X12_layWeights__6 : (.fieldLink RX12 251 "BallPotsModel" "lawful" "I" : Cond) ∈ wsX12_layWeights := rl_wsX12_layWeights_r1 _ (List.mem_of_getElem? (i := 5) rfl)
theorem mw_X12_layWeights__7 : (.fieldLink RX12 77 "BallPotsModel" "level" "[I" : Cond) ∈ wsX12_layWeights := rl_wsX12_layWeights_r1 _ (List.mem_of_getElem? (i := 6) rfl)
theorem mw_X12_layWeights__8 : (.fieldLink RX12 188 "BallPotsModel" "pots" "I" : Cond) ∈ wsX12_layWeights := rl_wsX12_layWeights_r1 _ (List.mem_of_getElem? (i := 7) rfl)
theorem mw_X12_layWeights__9 : (.fieldLink RX12 83 "BallPotsModel" "ways" "[J" : Cond) ∈ wsX12_layWeights := rl_wsX12_layWeights_r1 _ (List.mem_of_getElem? (i := 8) rfl)
theorem mw_X12_layWeights__10 : (.fieldLink RX12 185 "BallPotsModel" "groups" "I" : Cond) ∈ wsX12_layWeights := rl_wsX12_layWeights_r1 _ (List.mem_of_getElem? (i := 9) rfl)
theorem mw_X12_layWeights__11 : (.fieldLink RX12 245 "BallPotsModel" "ranks" "I" : Cond) ∈ wsX12_layWeights := rl_wsX12_layWeights_r1 _ (List.mem_of_getElem? (i := 10) rfl)
theorem mw_X12_layWeights__12 : (.fieldLink RX12 71 "BallPotsModel" "turn" "[I" : Cond) ∈ wsX12_layWeights := rl_wsX12_layWeights_r1 _ (List.mem_of_getElem? (i := 11) rfl)
theorem mw_X12_layWeights__13 : (.fieldLink RX12 288 "BallPotsModel" "parts" "I" : Cond) ∈ wsX12_layWeights := rl_wsX12_layWeights_r1 _ (List.mem_of_getElem? (i := 12) rfl)
theorem mw_X12_layWeights__14 : (.fieldLink RX12 87 "BallPotsModel" "indexOf" "[I" : Cond) ∈ wsX12_layWeights := rl_wsX12_layWeights_r1 _ (List.mem_of_getElem? (i := 13) rfl)
theorem mw_X12_layWeights__15 : (.methodLink RX12 311 yX12_layMasks : Cond) ∈ wsX12_layWeights := rl_wsX12_layWeights_r1 _ (List.mem_of_getElem? (i := 14) rfl)
theorem mw_X12_layWeights__16 : (.instanceMethod yX12_layMasks : Cond) ∈ wsX12_layWeights := rl_wsX12_layWeights_r1 _ (List.mem_of_getElem? (i := 15) rfl)
theorem mw_X12_layWeights__17 : (.selects RX12 yX12_layMasks yX12_layMasks : Cond) ∈ wsX12_layWeights := rl_wsX12_layWeights_r1 _ (List.mem_of_getElem? (i := 16) rfl)
theorem mw_X12_layWeights__18 : (.initialized RX12 : Cond) ∈ wsX12_layWeights := rl_wsX12_layWeights_r1 _ (List.mem_of_getElem? (i := 17) rfl)
theorem mw_X12_layWeights__19 : (.code yX12_layMasks cX12_layMasks 6 none : Cond) ∈ wsX12_layWeights := rl_wsX12_layWeights_r1 _ (List.mem_of_getElem? (i := 18) rfl)
theorem mw_X12_layWeights__20 : (.fieldLink RX12 80 "BallPotsModel" "mask" "[I" : Cond) ∈ wsX12_layWeights := rl_wsX12_layWeights_r1 _ (List.mem_of_getElem? (i := 19) rfl)
theorem mw_X12_layWeights__21 : (.fieldLink RX12 90 "BallPotsModel" "having" "[I" : Cond) ∈ wsX12_layWeights := rl_wsX12_layWeights_r1 _ (List.mem_of_getElem? (i := 20) rfl)
theorem mw_X12_layWeights__22 : (.fieldLink RX12 44 "BallPotsModel" "row" "[I" : Cond) ∈ wsX12_layWeights := rl_wsX12_layWeights_r1 _ (List.mem_of_getElem? (i := 21) rfl)
theorem mw_X12_layWeights__23 : (.fieldLink RX12 93 "BallPotsModel" "power" "[I" : Cond) ∈ wsX12_layWeights := rl_wsX12_layWeights_r1 _ (List.mem_of_getElem? (i := 22) rfl)
theorem mw_X12_layWeights__24 : (.methodLink RX12 254 yX12_rankIn : Cond) ∈ wsX12_layWeights := rl_wsX12_layWeights_r1 _ (List.mem_of_getElem? (i := 23) rfl)
theorem mw_X12_layWeights__25 : (.instanceMethod yX12_rankIn : Cond) ∈ wsX12_layWeights := rl_wsX12_layWeights_r2 _ (List.mem_of_getElem? (i := 0) rfl)
theorem mw_X12_layWeights__26 : (.selects RX12 yX12_rankIn yX12_rankIn : Cond) ∈ wsX12_layWeights := rl_wsX12_layWeights_r2 _ (List.mem_of_getElem? (i := 1) rfl)
theorem mw_X12_layWeights__27 : (.code yX12_rankIn cX12_rankIn 5 (some .int) : Cond) ∈ wsX12_layWeights := rl_wsX12_layWeights_r2 _ (List.mem_of_getElem? (i := 2) rfl)
theorem mw_X12_layWeights__28 : (.methodLink RX12 275 yX12_isAsPlaced : Cond) ∈ wsX12_layWeights := rl_wsX12_layWeights_r2 _ (List.mem_of_getElem? (i := 3) rfl)
theorem mw_X12_layWeights__29 : (.instanceMethod yX12_isAsPlaced : Cond) ∈ wsX12_layWeights := rl_wsX12_layWeights_r2 _ (List.mem_of_getElem? (i := 4) rfl)
theorem mw_X12_layWeights__30 : (.selects RX12 yX12_isAsPlaced yX12_isAsPlaced : Cond) ∈ wsX12_layWeights := rl_wsX12_layWeights_r2 _ (List.mem_of_getElem? (i := 5) rfl)
theorem mw_X12_layWeights__31 : (.code yX12_isAsPlaced cX12_isAsPlaced 4 (some .boolean) : Cond) ∈ wsX12_layWeights := rl_wsX12_layWeights_r2 _ (List.mem_of_getElem? (i := 6) rfl)
theorem mw_X12_layWeights__32 : (.fieldLink RX12 51 "BallPotsModel" "groupOf" "[B" : Cond) ∈ wsX12_layWeights := rl_wsX12_layWeights_r2 _ (List.mem_of_getElem? (i := 7) rfl)
theorem mw_X12_layWeights__33 : (.fieldLink RX12 65 "BallPotsModel" "ballOf" "[I" : Cond) ∈ wsX12_layWeights := rl_wsX12_layWeights_r2 _ (List.mem_of_getElem? (i := 8) rfl)
theorem mw_X12_layWeights__34 : (.fieldLink RX12 68 "BallPotsModel" "groupGot" "[I" : Cond) ∈ wsX12_layWeights := rl_wsX12_layWeights_r2 _ (List.mem_of_getElem? (i := 9) rfl)
theorem mw_X12_layWeights__35 : (.methodLink RX12 314 yX12_placedPart : Cond) ∈ wsX12_layWeights := rl_wsX12_layWeights_r2 _ (List.mem_of_getElem? (i := 10) rfl)
theorem mw_X12_layWeights__36 : (.instanceMethod yX12_placedPart : Cond) ∈ wsX12_layWeights := rl_wsX12_layWeights_r2 _ (List.mem_of_getElem? (i := 11) rfl)
theorem mw_X12_layWeights__37 : (.selects RX12 yX12_placedPart yX12_placedPart : Cond) ∈ wsX12_layWeights := rl_wsX12_layWeights_r2 _ (List.mem_of_getElem? (i := 12) rfl)
theorem mw_X12_layWeights__38 : (.code yX12_placedPart cX12_placedPart 5 (some .int) : Cond) ∈ wsX12_layWeights := rl_wsX12_layWeights_r2 _ (List.mem_of_getElem? (i := 13) rfl)
theorem mw_X12_layWeights__39 : (.methodLink RX12 317 yX12_rankOf : Cond) ∈ wsX12_layWeights := rl_wsX12_layWeights_r2 _ (List.mem_of_getElem? (i := 14) rfl)
theorem mw_X12_layWeights__40 : (.instanceMethod yX12_rankOf : Cond) ∈ wsX12_layWeights := rl_wsX12_layWeights_r2 _ (List.mem_of_getElem? (i := 15) rfl)
theorem mw_X12_layWeights__41 : (.selects RX12 yX12_rankOf yX12_rankOf : Cond) ∈ wsX12_layWeights := rl_wsX12_layWeights_r2 _ (List.mem_of_getElem? (i := 16) rfl)
theorem mw_X12_layWeights__42 : (.code yX12_rankOf cX12_rankOf 4 (some .int) : Cond) ∈ wsX12_layWeights := rl_wsX12_layWeights_r2 _ (List.mem_of_getElem? (i := 17) rfl)
theorem mw_X12_layWeights__43 : (.methodLink RX12 294 yX12_agreeing : Cond) ∈ wsX12_layWeights := rl_wsX12_layWeights_r2 _ (List.mem_of_getElem? (i := 18) rfl)
theorem mw_X12_layWeights__44 : (.instanceMethod yX12_agreeing : Cond) ∈ wsX12_layWeights := rl_wsX12_layWeights_r2 _ (List.mem_of_getElem? (i := 19) rfl)
theorem mw_X12_layWeights__45 : (.selects RX12 yX12_agreeing yX12_agreeing : Cond) ∈ wsX12_layWeights := rl_wsX12_layWeights_r2 _ (List.mem_of_getElem? (i := 20) rfl)
theorem mw_X12_layWeights__46 : (.code yX12_agreeing cX12_agreeing 5 (some .int) : Cond) ∈ wsX12_layWeights := rl_wsX12_layWeights_r2 _ (List.mem_of_getElem? (i := 21) rfl)
theorem mw_X12_layWeights__47 : (.methodLink RX12 291 yX12_digit : Cond) ∈ wsX12_layWeights := rl_wsX12_layWeights_r2 _ (List.mem_of_getElem? (i := 22) rfl)
theorem mw_X12_layWeights__48 : (.instanceMethod yX12_digit : Cond) ∈ wsX12_layWeights := rl_wsX12_layWeights_r2 _ (List.mem_of_getElem? (i := 23) rfl)
theorem mw_X12_layWeights__49 : (.selects RX12 yX12_digit yX12_digit : Cond) ∈ wsX12_layWeights := rl_wsX12_layWeights_r3 _ (List.mem_of_getElem? (i := 0) rfl)
theorem mw_X12_layWeights__50 : (.code yX12_digit cX12_digit 3 (some .int) : Cond) ∈ wsX12_layWeights := rl_wsX12_layWeights_r3 _ (List.mem_of_getElem? (i := 1) rfl)
theorem mw_X12_layWeights__51 : (.methodLink RX12 320 yX12_pot : Cond) ∈ wsX12_layWeights := rl_wsX12_layWeights_r3 _ (List.mem_of_getElem? (i := 2) rfl)
theorem mw_X12_layWeights__52 : (.instanceMethod yX12_pot : Cond) ∈ wsX12_layWeights := rl_wsX12_layWeights_r3 _ (List.mem_of_getElem? (i := 3) rfl)
theorem mw_X12_layWeights__53 : (.selects RX12 yX12_pot yX12_pot : Cond) ∈ wsX12_layWeights := rl_wsX12_layWeights_r3 _ (List.mem_of_getElem? (i := 4) rfl)
theorem mw_X12_layWeights__54 : (.code yX12_pot cX12_pot 9 none : Cond) ∈ wsX12_layWeights := rl_wsX12_layWeights_r3 _ (List.mem_of_getElem? (i := 5) rfl)
theorem mw_X12_layWeights__55 : (.fieldLink RX12 96 "BallPotsModel" "part" "[J" : Cond) ∈ wsX12_layWeights := rl_wsX12_layWeights_r3 _ (List.mem_of_getElem? (i := 6) rfl)
theorem mw_X12_layWeights__56 : (.methodLink RX12 300 yX12_comes : Cond) ∈ wsX12_layWeights := rl_wsX12_layWeights_r3 _ (List.mem_of_getElem? (i := 7) rfl)
theorem mw_X12_layWeights__57 : (.instanceMethod yX12_comes : Cond) ∈ wsX12_layWeights := rl_wsX12_layWeights_r3 _ (List.mem_of_getElem? (i := 8) rfl)
theorem mw_X12_layWeights__58 : (.selects RX12 yX12_comes yX12_comes : Cond) ∈ wsX12_layWeights := rl_wsX12_layWeights_r3 _ (List.mem_of_getElem? (i := 9) rfl)
theorem mw_X12_layWeights__59 : (.code yX12_comes cX12_comes 10 none : Cond) ∈ wsX12_layWeights := rl_wsX12_layWeights_r3 _ (List.mem_of_getElem? (i := 10) rfl)
theorem mw_X12_layWeights__60 : (.fieldLink RX12 74 "BallPotsModel" "look" "[I" : Cond) ∈ wsX12_layWeights := rl_wsX12_layWeights_r3 _ (List.mem_of_getElem? (i := 11) rfl)
theorem mw_X12_layWeights__61 : (.methodLink RX12 297 yX12_share : Cond) ∈ wsX12_layWeights := rl_wsX12_layWeights_r3 _ (List.mem_of_getElem? (i := 12) rfl)
theorem mw_X12_layWeights__62 : (.static yX12_share : Cond) ∈ wsX12_layWeights := rl_wsX12_layWeights_r3 _ (List.mem_of_getElem? (i := 13) rfl)
theorem mw_X12_layWeights__63 : (.code yX12_share cX12_share 1 (some .int) : Cond) ∈ wsX12_layWeights := rl_wsX12_layWeights_r3 _ (List.mem_of_getElem? (i := 14) rfl)
theorem mw_X12_leads__1 : (.fieldLink RX12 132 "BallPotsModel" "thrown" "I" : Cond) ∈ wsX12_leads := rl_wsX12_leads_r1 _ (List.mem_of_getElem? (i := 0) rfl)
theorem mw_X12_leads__2 : (.fieldLink RX12 248 "BallPotsModel" "draws" "I" : Cond) ∈ wsX12_leads := rl_wsX12_leads_r1 _ (List.mem_of_getElem? (i := 1) rfl)
theorem mw_X12_leads__3 : (.fieldLink RX12 251 "BallPotsModel" "lawful" "I" : Cond) ∈ wsX12_leads := rl_wsX12_leads_r1 _ (List.mem_of_getElem? (i := 2) rfl)
theorem mw_X12_leads__4 : (.fieldLink RX12 188 "BallPotsModel" "pots" "I" : Cond) ∈ wsX12_leads := rl_wsX12_leads_r1 _ (List.mem_of_getElem? (i := 3) rfl)
theorem mw_X12_leads__5 : (.fieldLink RX12 245 "BallPotsModel" "ranks" "I" : Cond) ∈ wsX12_leads := rl_wsX12_leads_r1 _ (List.mem_of_getElem? (i := 4) rfl)
theorem mw_X12_leads__6 : (.fieldLink RX12 47 "BallPotsModel" "breaks" "[I" : Cond) ∈ wsX12_leads := rl_wsX12_leads_r1 _ (List.mem_of_getElem? (i := 5) rfl)
theorem mw_X12_leads__7 : (.fieldLink RX12 87 "BallPotsModel" "indexOf" "[I" : Cond) ∈ wsX12_leads := rl_wsX12_leads_r1 _ (List.mem_of_getElem? (i := 6) rfl)
theorem mw_X12_leads__8 : (.methodLink RX12 304 yX12_turnsAs : Cond) ∈ wsX12_leads := rl_wsX12_leads_r1 _ (List.mem_of_getElem? (i := 7) rfl)
theorem mw_X12_leads__9 : (.instanceMethod yX12_turnsAs : Cond) ∈ wsX12_leads := rl_wsX12_leads_r1 _ (List.mem_of_getElem? (i := 8) rfl)
theorem mw_X12_leads__10 : (.selects RX12 yX12_turnsAs yX12_turnsAs : Cond) ∈ wsX12_leads := rl_wsX12_leads_r1 _ (List.mem_of_getElem? (i := 9) rfl)
theorem mw_X12_leads__11 : (.initialized RX12 : Cond) ∈ wsX12_leads := rl_wsX12_leads_r1 _ (List.mem_of_getElem? (i := 10) rfl)
theorem mw_X12_leads__12 : (.code yX12_turnsAs cX12_turnsAs 2 none : Cond) ∈ wsX12_leads := rl_wsX12_leads_r1 _ (List.mem_of_getElem? (i := 11) rfl)
theorem mw_X12_leads__13 : (.fieldLink RX12 71 "BallPotsModel" "turn" "[I" : Cond) ∈ wsX12_leads := rl_wsX12_leads_r1 _ (List.mem_of_getElem? (i := 12) rfl)
theorem mw_X12_leads__14 : (.fieldLink RX12 59 "BallPotsModel" "order" "[I" : Cond) ∈ wsX12_leads := rl_wsX12_leads_r1 _ (List.mem_of_getElem? (i := 13) rfl)
theorem mw_X12_leads__15 : (.fieldLink RX12 74 "BallPotsModel" "look" "[I" : Cond) ∈ wsX12_leads := rl_wsX12_leads_r1 _ (List.mem_of_getElem? (i := 14) rfl)
theorem mw_X12_leads__16 : (.fieldLink RX12 62 "BallPotsModel" "arranged" "[I" : Cond) ∈ wsX12_leads := rl_wsX12_leads_r1 _ (List.mem_of_getElem? (i := 15) rfl)
theorem mw_X12_leads__17 : (.methodLink RX12 311 yX12_layMasks : Cond) ∈ wsX12_leads := rl_wsX12_leads_r1 _ (List.mem_of_getElem? (i := 16) rfl)
theorem mw_X12_leads__18 : (.instanceMethod yX12_layMasks : Cond) ∈ wsX12_leads := rl_wsX12_leads_r1 _ (List.mem_of_getElem? (i := 17) rfl)
theorem mw_X12_leads__19 : (.selects RX12 yX12_layMasks yX12_layMasks : Cond) ∈ wsX12_leads := rl_wsX12_leads_r1 _ (List.mem_of_getElem? (i := 18) rfl)
theorem mw_X12_leads__20 : (.code yX12_layMasks cX12_layMasks 6 none : Cond) ∈ wsX12_leads := rl_wsX12_leads_r1 _ (List.mem_of_getElem? (i := 19) rfl)
theorem mw_X12_leads__21 : (.fieldLink RX12 77 "BallPotsModel" "level" "[I" : Cond) ∈ wsX12_leads := rl_wsX12_leads_r1 _ (List.mem_of_getElem? (i := 20) rfl)
theorem mw_X12_leads__22 : (.fieldLink RX12 80 "BallPotsModel" "mask" "[I" : Cond) ∈ wsX12_leads := rl_wsX12_leads_r1 _ (List.mem_of_getElem? (i := 21) rfl)
theorem mw_X12_leads__23 : (.fieldLink RX12 90 "BallPotsModel" "having" "[I" : Cond) ∈ wsX12_leads := rl_wsX12_leads_r1 _ (List.mem_of_getElem? (i := 22) rfl)
theorem mw_X12_leads__24 : (.fieldLink RX12 185 "BallPotsModel" "groups" "I" : Cond) ∈ wsX12_leads := rl_wsX12_leads_r1 _ (List.mem_of_getElem? (i := 23) rfl)
theorem mw_X12_leads__25 : (.fieldLink RX12 44 "BallPotsModel" "row" "[I" : Cond) ∈ wsX12_leads := rl_wsX12_leads_r2 _ (List.mem_of_getElem? (i := 0) rfl)
theorem mw_X12_leads__26 : (.fieldLink RX12 288 "BallPotsModel" "parts" "I" : Cond) ∈ wsX12_leads := rl_wsX12_leads_r2 _ (List.mem_of_getElem? (i := 1) rfl)
theorem mw_X12_leads__27 : (.fieldLink RX12 93 "BallPotsModel" "power" "[I" : Cond) ∈ wsX12_leads := rl_wsX12_leads_r2 _ (List.mem_of_getElem? (i := 2) rfl)
theorem mw_X12_leads__28 : (.methodLink RX12 254 yX12_rankIn : Cond) ∈ wsX12_leads := rl_wsX12_leads_r2 _ (List.mem_of_getElem? (i := 3) rfl)
theorem mw_X12_leads__29 : (.instanceMethod yX12_rankIn : Cond) ∈ wsX12_leads := rl_wsX12_leads_r2 _ (List.mem_of_getElem? (i := 4) rfl)
theorem mw_X12_leads__30 : (.selects RX12 yX12_rankIn yX12_rankIn : Cond) ∈ wsX12_leads := rl_wsX12_leads_r2 _ (List.mem_of_getElem? (i := 5) rfl)
theorem mw_X12_leads__31 : (.code yX12_rankIn cX12_rankIn 5 (some .int) : Cond) ∈ wsX12_leads := rl_wsX12_leads_r2 _ (List.mem_of_getElem? (i := 6) rfl)
theorem mw_X12_leads__32 : (.methodLink RX12 369 yX12_put : Cond) ∈ wsX12_leads := rl_wsX12_leads_r2 _ (List.mem_of_getElem? (i := 7) rfl)
theorem mw_X12_leads__33 : (.instanceMethod yX12_put : Cond) ∈ wsX12_leads := rl_wsX12_leads_r2 _ (List.mem_of_getElem? (i := 8) rfl)
theorem mw_X12_leads__34 : (.selects RX12 yX12_put yX12_put : Cond) ∈ wsX12_leads := rl_wsX12_leads_r2 _ (List.mem_of_getElem? (i := 9) rfl)
theorem mw_X12_leads__35 : (.code yX12_put cX12_put 6 (some .int) : Cond) ∈ wsX12_leads := rl_wsX12_leads_r2 _ (List.mem_of_getElem? (i := 10) rfl)
theorem mw_X12_leads__36 : (.methodLink RX12 366 yX12_putOne : Cond) ∈ wsX12_leads := rl_wsX12_leads_r2 _ (List.mem_of_getElem? (i := 11) rfl)
theorem mw_X12_leads__37 : (.instanceMethod yX12_putOne : Cond) ∈ wsX12_leads := rl_wsX12_leads_r2 _ (List.mem_of_getElem? (i := 12) rfl)
theorem mw_X12_leads__38 : (.selects RX12 yX12_putOne yX12_putOne : Cond) ∈ wsX12_leads := rl_wsX12_leads_r2 _ (List.mem_of_getElem? (i := 13) rfl)
theorem mw_X12_leads__39 : (.code yX12_putOne cX12_putOne 6 (some .int) : Cond) ∈ wsX12_leads := rl_wsX12_leads_r2 _ (List.mem_of_getElem? (i := 14) rfl)
theorem mw_X12_leads__40 : (.methodLink RX12 294 yX12_agreeing : Cond) ∈ wsX12_leads := rl_wsX12_leads_r2 _ (List.mem_of_getElem? (i := 15) rfl)
theorem mw_X12_leads__41 : (.instanceMethod yX12_agreeing : Cond) ∈ wsX12_leads := rl_wsX12_leads_r2 _ (List.mem_of_getElem? (i := 16) rfl)
theorem mw_X12_leads__42 : (.selects RX12 yX12_agreeing yX12_agreeing : Cond) ∈ wsX12_leads := rl_wsX12_leads_r2 _ (List.mem_of_getElem? (i := 17) rfl)
theorem mw_X12_leads__43 : (.code yX12_agreeing cX12_agreeing 5 (some .int) : Cond) ∈ wsX12_leads := rl_wsX12_leads_r2 _ (List.mem_of_getElem? (i := 18) rfl)
theorem mw_X12_leads__44 : (.methodLink RX12 291 yX12_digit : Cond) ∈ wsX12_leads := rl_wsX12_leads_r2 _ (List.mem_of_getElem? (i := 19) rfl)
theorem mw_X12_leads__45 : (.instanceMethod yX12_digit : Cond) ∈ wsX12_leads := rl_wsX12_leads_r2 _ (List.mem_of_getElem? (i := 20) rfl)
theorem mw_X12_leads__46 : (.selects RX12 yX12_digit yX12_digit : Cond) ∈ wsX12_leads := rl_wsX12_leads_r2 _ (List.mem_of_getElem? (i := 21) rfl)
theorem mw_X12_leads__47 : (.code yX12_digit cX12_digit 3 (some .int) : Cond) ∈ wsX12_leads := rl_wsX12_leads_r2 _ (List.mem_of_getElem? (i := 22) rfl)
theorem mw_X12_leads__48 : (.methodLink RX12 317 yX12_rankOf : Cond) ∈ wsX12_leads := rl_wsX12_leads_r2 _ (List.mem_of_getElem? (i := 23) rfl)
theorem mw_X12_leads__49 : (.instanceMethod yX12_rankOf : Cond) ∈ wsX12_leads := rl_wsX12_leads_r3 _ (List.mem_of_getElem? (i := 0) rfl)
theorem mw_X12_leads__50 : (.selects RX12 yX12_rankOf yX12_rankOf : Cond) ∈ wsX12_leads := rl_wsX12_leads_r3 _ (List.mem_of_getElem? (i := 1) rfl)
theorem mw_X12_leads__51 : (.code yX12_rankOf cX12_rankOf 4 (some .int) : Cond) ∈ wsX12_leads := rl_wsX12_leads_r3 _ (List.mem_of_getElem? (i := 2) rfl)
theorem mw_X12_leave__1 : (.fieldLink RX12 132 "BallPotsModel" "thrown" "I" : Cond) ∈ wsX12_leave := rl_wsX12_leave_r1 _ (List.mem_of_getElem? (i := 0) rfl)
theorem mw_X12_leave__2 : (.fieldLink RX12 225 "BallPotsModel" "bars" "I" : Cond) ∈ wsX12_leave := rl_wsX12_leave_r1 _ (List.mem_of_getElem? (i := 1) rfl)
theorem mw_X12_leave__3 : (.methodLink RX12 237 yX12_isIn : Cond) ∈ wsX12_leave := rl_wsX12_leave_r1 _ (List.mem_of_getElem? (i := 2) rfl)
theorem mw_X12_leave__4 : (.static yX12_isIn : Cond) ∈ wsX12_leave := rl_wsX12_leave_r1 _ (List.mem_of_getElem? (i := 3) rfl)
theorem mw_X12_leave__5 : (.initialized RX12 : Cond) ∈ wsX12_leave := rl_wsX12_leave_r1 _ (List.mem_of_getElem? (i := 4) rfl)
theorem mw_X12_leave__6 : (.code yX12_isIn cX12_isIn 3 (some .boolean) : Cond) ∈ wsX12_leave := rl_wsX12_leave_r1 _ (List.mem_of_getElem? (i := 5) rfl)
theorem mw_X12_leave__7 : (.methodLink RX12 263 yX12_many : Cond) ∈ wsX12_leave := rl_wsX12_leave_r1 _ (List.mem_of_getElem? (i := 6) rfl)
theorem mw_X12_leave__8 : (.static yX12_many : Cond) ∈ wsX12_leave := rl_wsX12_leave_r1 _ (List.mem_of_getElem? (i := 7) rfl)
theorem mw_X12_leave__9 : (.code yX12_many cX12_many 3 (some .int) : Cond) ∈ wsX12_leave := rl_wsX12_leave_r1 _ (List.mem_of_getElem? (i := 8) rfl)
theorem mw_X12_leave__10 : (.methodLink RX12 374 yX12_isEven : Cond) ∈ wsX12_leave := rl_wsX12_leave_r1 _ (List.mem_of_getElem? (i := 9) rfl)
theorem mw_X12_leave__11 : (.instanceMethod yX12_isEven : Cond) ∈ wsX12_leave := rl_wsX12_leave_r1 _ (List.mem_of_getElem? (i := 10) rfl)
theorem mw_X12_leave__12 : (.selects RX12 yX12_isEven yX12_isEven : Cond) ∈ wsX12_leave := rl_wsX12_leave_r1 _ (List.mem_of_getElem? (i := 11) rfl)
theorem mw_X12_leave__13 : (.code yX12_isEven cX12_isEven 7 (some .boolean) : Cond) ∈ wsX12_leave := rl_wsX12_leave_r1 _ (List.mem_of_getElem? (i := 12) rfl)
theorem mw_X12_leave__14 : (.fieldLink RX12 102 "BallPotsModel" "laid" "I" : Cond) ∈ wsX12_leave := rl_wsX12_leave_r1 _ (List.mem_of_getElem? (i := 13) rfl)
theorem mw_X12_leave__15 : (.fieldLink RX12 248 "BallPotsModel" "draws" "I" : Cond) ∈ wsX12_leave := rl_wsX12_leave_r1 _ (List.mem_of_getElem? (i := 14) rfl)
theorem mw_X12_leave__16 : (.fieldLink RX12 99 "BallPotsModel" "weight" "[J" : Cond) ∈ wsX12_leave := rl_wsX12_leave_r1 _ (List.mem_of_getElem? (i := 15) rfl)
theorem mw_X12_leave__17 : (.fieldLink RX12 47 "BallPotsModel" "breaks" "[I" : Cond) ∈ wsX12_leave := rl_wsX12_leave_r1 _ (List.mem_of_getElem? (i := 16) rfl)
theorem mw_X12_leave__18 : (.fieldLink RX12 185 "BallPotsModel" "groups" "I" : Cond) ∈ wsX12_leave := rl_wsX12_leave_r1 _ (List.mem_of_getElem? (i := 17) rfl)
theorem mw_X12_leave__19 : (.constantLong RX12 372 (100) : Cond) ∈ wsX12_leave := rl_wsX12_leave_r1 _ (List.mem_of_getElem? (i := 18) rfl)
theorem mw_X12_leave__20 : (.methodLink RX12 260 yX12_lawfulBut : Cond) ∈ wsX12_leave := rl_wsX12_leave_r1 _ (List.mem_of_getElem? (i := 19) rfl)
theorem mw_X12_leave__21 : (.instanceMethod yX12_lawfulBut : Cond) ∈ wsX12_leave := rl_wsX12_leave_r1 _ (List.mem_of_getElem? (i := 20) rfl)
theorem mw_X12_leave__22 : (.selects RX12 yX12_lawfulBut yX12_lawfulBut : Cond) ∈ wsX12_leave := rl_wsX12_leave_r1 _ (List.mem_of_getElem? (i := 21) rfl)
theorem mw_X12_leave__23 : (.code yX12_lawfulBut cX12_lawfulBut 4 (some .int) : Cond) ∈ wsX12_leave := rl_wsX12_leave_r1 _ (List.mem_of_getElem? (i := 22) rfl)
theorem mw_X12_leave__24 : (.methodLink RX12 241 yX12_teams : Cond) ∈ wsX12_leave := rl_wsX12_leave_r1 _ (List.mem_of_getElem? (i := 23) rfl)
theorem mw_X12_leave__25 : (.instanceMethod yX12_teams : Cond) ∈ wsX12_leave := rl_wsX12_leave_r2 _ (List.mem_of_getElem? (i := 0) rfl)
theorem mw_X12_leave__26 : (.selects RX12 yX12_teams yX12_teams : Cond) ∈ wsX12_leave := rl_wsX12_leave_r2 _ (List.mem_of_getElem? (i := 1) rfl)
theorem mw_X12_leave__27 : (.code yX12_teams cX12_teams 1 (some .int) : Cond) ∈ wsX12_leave := rl_wsX12_leave_r2 _ (List.mem_of_getElem? (i := 2) rfl)
theorem mw_X12_leave__28 : (.fieldLink RX12 188 "BallPotsModel" "pots" "I" : Cond) ∈ wsX12_leave := rl_wsX12_leave_r2 _ (List.mem_of_getElem? (i := 3) rfl)
theorem mw_X12_leave__29 : (.methodLink RX12 333 yX12_pairRows : Cond) ∈ wsX12_leave := rl_wsX12_leave_r2 _ (List.mem_of_getElem? (i := 4) rfl)
theorem mw_X12_leave__30 : (.instanceMethod yX12_pairRows : Cond) ∈ wsX12_leave := rl_wsX12_leave_r2 _ (List.mem_of_getElem? (i := 5) rfl)
theorem mw_X12_leave__31 : (.selects RX12 yX12_pairRows yX12_pairRows : Cond) ∈ wsX12_leave := rl_wsX12_leave_r2 _ (List.mem_of_getElem? (i := 6) rfl)
theorem mw_X12_leave__32 : (.code yX12_pairRows cX12_pairRows 6 (some .long) : Cond) ∈ wsX12_leave := rl_wsX12_leave_r2 _ (List.mem_of_getElem? (i := 7) rfl)
theorem mw_X12_leave__33 : (.fieldLink RX12 51 "BallPotsModel" "groupOf" "[B" : Cond) ∈ wsX12_leave := rl_wsX12_leave_r2 _ (List.mem_of_getElem? (i := 8) rfl)
theorem mw_X12_lineRead__1 : (.fieldLink RX12 150 "BallPotsModel" "kind" "I" : Cond) ∈ wsX12_lineRead := rl_wsX12_lineRead_r1 _ (List.mem_of_getElem? (i := 0) rfl)
theorem mw_X12_lineRead__2 : (.fieldLink RX12 161 "BallPotsModel" "which" "I" : Cond) ∈ wsX12_lineRead := rl_wsX12_lineRead_r1 _ (List.mem_of_getElem? (i := 1) rfl)
theorem mw_X12_lineRead__3 : (.fieldLink RX12 170 "BallPotsModel" "groupsRead" "I" : Cond) ∈ wsX12_lineRead := rl_wsX12_lineRead_r1 _ (List.mem_of_getElem? (i := 2) rfl)
theorem mw_X12_lineRead__4 : (.methodLink RX12 191 yX12_wrong : Cond) ∈ wsX12_lineRead := rl_wsX12_lineRead_r1 _ (List.mem_of_getElem? (i := 3) rfl)
theorem mw_X12_lineRead__5 : (.instanceMethod yX12_wrong : Cond) ∈ wsX12_lineRead := rl_wsX12_lineRead_r1 _ (List.mem_of_getElem? (i := 4) rfl)
theorem mw_X12_lineRead__6 : (.selects RX12 yX12_wrong yX12_wrong : Cond) ∈ wsX12_lineRead := rl_wsX12_lineRead_r1 _ (List.mem_of_getElem? (i := 5) rfl)
theorem mw_X12_lineRead__7 : (.initialized RX12 : Cond) ∈ wsX12_lineRead := rl_wsX12_lineRead_r1 _ (List.mem_of_getElem? (i := 6) rfl)
theorem mw_X12_lineRead__8 : (.code yX12_wrong cX12_wrong 2 (some .boolean) : Cond) ∈ wsX12_lineRead := rl_wsX12_lineRead_r1 _ (List.mem_of_getElem? (i := 7) rfl)
theorem mw_X12_lineRead__9 : (.fieldLink RX12 138 "BallPotsModel" "fault" "I" : Cond) ∈ wsX12_lineRead := rl_wsX12_lineRead_r1 _ (List.mem_of_getElem? (i := 8) rfl)
theorem mw_X12_lineRead__10 : (.fieldLink RX12 141 "BallPotsModel" "place" "I" : Cond) ∈ wsX12_lineRead := rl_wsX12_lineRead_r1 _ (List.mem_of_getElem? (i := 9) rfl)
theorem mw_X12_lineRead__11 : (.fieldLink RX12 16 "BallPotsModel" "faultPlace" "I" : Cond) ∈ wsX12_lineRead := rl_wsX12_lineRead_r1 _ (List.mem_of_getElem? (i := 10) rfl)
theorem mw_X12_lineRead__12 : (.methodLink RX12 194 yX12_take : Cond) ∈ wsX12_lineRead := rl_wsX12_lineRead_r1 _ (List.mem_of_getElem? (i := 11) rfl)
theorem mw_X12_lineRead__13 : (.instanceMethod yX12_take : Cond) ∈ wsX12_lineRead := rl_wsX12_lineRead_r1 _ (List.mem_of_getElem? (i := 12) rfl)
theorem mw_X12_lineRead__14 : (.selects RX12 yX12_take yX12_take : Cond) ∈ wsX12_lineRead := rl_wsX12_lineRead_r1 _ (List.mem_of_getElem? (i := 13) rfl)
theorem mw_X12_lineRead__15 : (.code yX12_take cX12_take 1 none : Cond) ∈ wsX12_lineRead := rl_wsX12_lineRead_r1 _ (List.mem_of_getElem? (i := 14) rfl)
theorem mw_X12_lineRead__16 : (.fieldLink RX12 147 "BallPotsModel" "next" "I" : Cond) ∈ wsX12_lineRead := rl_wsX12_lineRead_r1 _ (List.mem_of_getElem? (i := 15) rfl)
theorem mw_X12_lineRead__17 : (.fieldLink RX12 144 "BallPotsModel" "stop" "I" : Cond) ∈ wsX12_lineRead := rl_wsX12_lineRead_r1 _ (List.mem_of_getElem? (i := 16) rfl)
theorem mw_X12_lineRead__18 : (.fieldLink RX12 7 "BallPotsModel" "tape" "[I" : Cond) ∈ wsX12_lineRead := rl_wsX12_lineRead_r1 _ (List.mem_of_getElem? (i := 17) rfl)
theorem mw_X12_lineRead__19 : (.methodLink RX12 153 yX12_isSmall : Cond) ∈ wsX12_lineRead := rl_wsX12_lineRead_r1 _ (List.mem_of_getElem? (i := 18) rfl)
theorem mw_X12_lineRead__20 : (.instanceMethod yX12_isSmall : Cond) ∈ wsX12_lineRead := rl_wsX12_lineRead_r1 _ (List.mem_of_getElem? (i := 19) rfl)
theorem mw_X12_lineRead__21 : (.selects RX12 yX12_isSmall yX12_isSmall : Cond) ∈ wsX12_lineRead := rl_wsX12_lineRead_r1 _ (List.mem_of_getElem? (i := 20) rfl)
theorem mw_X12_lineRead__22 : (.code yX12_isSmall cX12_isSmall 2 (some .boolean) : Cond) ∈ wsX12_lineRead := rl_wsX12_lineRead_r1 _ (List.mem_of_getElem? (i := 21) rfl)
theorem mw_X12_lineRead__23 : (.methodLink RX12 157 yX12_wordAt : Cond) ∈ wsX12_lineRead := rl_wsX12_lineRead_r1 _ (List.mem_of_getElem? (i := 22) rfl)
theorem mw_X12_lineRead__24 : (.instanceMethod yX12_wordAt : Cond) ∈ wsX12_lineRead := rl_wsX12_lineRead_r1 _ (List.mem_of_getElem? (i := 23) rfl)
theorem mw_X12_lineRead__25 : (.selects RX12 yX12_wordAt yX12_wordAt : Cond) ∈ wsX12_lineRead := rl_wsX12_lineRead_r2 _ (List.mem_of_getElem? (i := 0) rfl)
theorem mw_X12_lineRead__26 : (.code yX12_wordAt cX12_wordAt 8 (some .int) : Cond) ∈ wsX12_lineRead := rl_wsX12_lineRead_r2 _ (List.mem_of_getElem? (i := 1) rfl)
theorem mw_X12_lineRead__27 : (.fieldLink RX12 13 "BallPotsModel" "words" "[I" : Cond) ∈ wsX12_lineRead := rl_wsX12_lineRead_r2 _ (List.mem_of_getElem? (i := 2) rfl)
theorem mw_X12_lineRead__28 : (.methodLink RX12 164 yX12_packed : Cond) ∈ wsX12_lineRead := rl_wsX12_lineRead_r2 _ (List.mem_of_getElem? (i := 3) rfl)
theorem mw_X12_lineRead__29 : (.instanceMethod yX12_packed : Cond) ∈ wsX12_lineRead := rl_wsX12_lineRead_r2 _ (List.mem_of_getElem? (i := 4) rfl)
theorem mw_X12_lineRead__30 : (.selects RX12 yX12_packed yX12_packed : Cond) ∈ wsX12_lineRead := rl_wsX12_lineRead_r2 _ (List.mem_of_getElem? (i := 5) rfl)
theorem mw_X12_lineRead__31 : (.code yX12_packed cX12_packed 5 (some .int) : Cond) ∈ wsX12_lineRead := rl_wsX12_lineRead_r2 _ (List.mem_of_getElem? (i := 6) rfl)
theorem mw_X12_lineRead__32 : (.methodLink RX12 167 yX12_isDigit : Cond) ∈ wsX12_lineRead := rl_wsX12_lineRead_r2 _ (List.mem_of_getElem? (i := 7) rfl)
theorem mw_X12_lineRead__33 : (.instanceMethod yX12_isDigit : Cond) ∈ wsX12_lineRead := rl_wsX12_lineRead_r2 _ (List.mem_of_getElem? (i := 8) rfl)
theorem mw_X12_lineRead__34 : (.selects RX12 yX12_isDigit yX12_isDigit : Cond) ∈ wsX12_lineRead := rl_wsX12_lineRead_r2 _ (List.mem_of_getElem? (i := 9) rfl)
theorem mw_X12_lineRead__35 : (.code yX12_isDigit cX12_isDigit 2 (some .boolean) : Cond) ∈ wsX12_lineRead := rl_wsX12_lineRead_r2 _ (List.mem_of_getElem? (i := 10) rfl)
theorem mw_X12_lineRead__36 : (.methodLink RX12 204 yX12_isNumber : Cond) ∈ wsX12_lineRead := rl_wsX12_lineRead_r2 _ (List.mem_of_getElem? (i := 11) rfl)
theorem mw_X12_lineRead__37 : (.instanceMethod yX12_isNumber : Cond) ∈ wsX12_lineRead := rl_wsX12_lineRead_r2 _ (List.mem_of_getElem? (i := 12) rfl)
theorem mw_X12_lineRead__38 : (.selects RX12 yX12_isNumber yX12_isNumber : Cond) ∈ wsX12_lineRead := rl_wsX12_lineRead_r2 _ (List.mem_of_getElem? (i := 13) rfl)
theorem mw_X12_lineRead__39 : (.code yX12_isNumber cX12_isNumber 3 (some .boolean) : Cond) ∈ wsX12_lineRead := rl_wsX12_lineRead_r2 _ (List.mem_of_getElem? (i := 14) rfl)
theorem mw_X12_lineRead__40 : (.methodLink RX12 208 yX12_potRead : Cond) ∈ wsX12_lineRead := rl_wsX12_lineRead_r2 _ (List.mem_of_getElem? (i := 15) rfl)
theorem mw_X12_lineRead__41 : (.instanceMethod yX12_potRead : Cond) ∈ wsX12_lineRead := rl_wsX12_lineRead_r2 _ (List.mem_of_getElem? (i := 16) rfl)
theorem mw_X12_lineRead__42 : (.selects RX12 yX12_potRead yX12_potRead : Cond) ∈ wsX12_lineRead := rl_wsX12_lineRead_r2 _ (List.mem_of_getElem? (i := 17) rfl)
theorem mw_X12_lineRead__43 : (.code yX12_potRead cX12_potRead 2 (some .boolean) : Cond) ∈ wsX12_lineRead := rl_wsX12_lineRead_r2 _ (List.mem_of_getElem? (i := 18) rfl)
theorem mw_X12_lineRead__44 : (.fieldLink RX12 173 "BallPotsModel" "potsRead" "I" : Cond) ∈ wsX12_lineRead := rl_wsX12_lineRead_r2 _ (List.mem_of_getElem? (i := 19) rfl)
theorem mw_X12_lineRead__45 : (.fieldLink RX12 176 "BallPotsModel" "teamsRead" "I" : Cond) ∈ wsX12_lineRead := rl_wsX12_lineRead_r2 _ (List.mem_of_getElem? (i := 20) rfl)
theorem mw_X12_lineRead__46 : (.fieldLink RX12 32 "BallPotsModel" "teamRead" "[I" : Cond) ∈ wsX12_lineRead := rl_wsX12_lineRead_r2 _ (List.mem_of_getElem? (i := 21) rfl)
theorem mw_X12_lineRead__47 : (.methodLink RX12 197 yX12_teamOf : Cond) ∈ wsX12_lineRead := rl_wsX12_lineRead_r2 _ (List.mem_of_getElem? (i := 22) rfl)
theorem mw_X12_lineRead__48 : (.instanceMethod yX12_teamOf : Cond) ∈ wsX12_lineRead := rl_wsX12_lineRead_r2 _ (List.mem_of_getElem? (i := 23) rfl)
theorem mw_X12_lineRead__49 : (.selects RX12 yX12_teamOf yX12_teamOf : Cond) ∈ wsX12_lineRead := rl_wsX12_lineRead_r3 _ (List.mem_of_getElem? (i := 0) rfl)
theorem mw_X12_lineRead__50 : (.code yX12_teamOf cX12_teamOf 3 (some .int) : Cond) ∈ wsX12_lineRead := rl_wsX12_lineRead_r3 _ (List.mem_of_getElem? (i := 1) rfl)
theorem mw_X12_lineRead__51 : (.methodLink RX12 212 yX12_markLine : Cond) ∈ wsX12_lineRead := rl_wsX12_lineRead_r3 _ (List.mem_of_getElem? (i := 2) rfl)
theorem mw_X12_lineRead__52 : (.instanceMethod yX12_markLine : Cond) ∈ wsX12_lineRead := rl_wsX12_lineRead_r3 _ (List.mem_of_getElem? (i := 3) rfl)
theorem mw_X12_lineRead__53 : (.selects RX12 yX12_markLine yX12_markLine : Cond) ∈ wsX12_lineRead := rl_wsX12_lineRead_r3 _ (List.mem_of_getElem? (i := 4) rfl)
theorem mw_X12_lineRead__54 : (.code yX12_markLine cX12_markLine 4 (some .boolean) : Cond) ∈ wsX12_lineRead := rl_wsX12_lineRead_r3 _ (List.mem_of_getElem? (i := 5) rfl)
theorem mw_X12_lineRead__55 : (.fieldLink RX12 179 "BallPotsModel" "marksRead" "I" : Cond) ∈ wsX12_lineRead := rl_wsX12_lineRead_r3 _ (List.mem_of_getElem? (i := 6) rfl)
theorem mw_X12_lineRead__56 : (.fieldLink RX12 35 "BallPotsModel" "markRead" "[I" : Cond) ∈ wsX12_lineRead := rl_wsX12_lineRead_r3 _ (List.mem_of_getElem? (i := 7) rfl)
theorem mw_X12_lineRead__57 : (.fieldLink RX12 38 "BallPotsModel" "markedRead" "[I" : Cond) ∈ wsX12_lineRead := rl_wsX12_lineRead_r3 _ (List.mem_of_getElem? (i := 8) rfl)
theorem mw_X12_lineRead__58 : (.methodLink RX12 201 yX12_markOf : Cond) ∈ wsX12_lineRead := rl_wsX12_lineRead_r3 _ (List.mem_of_getElem? (i := 9) rfl)
theorem mw_X12_lineRead__59 : (.instanceMethod yX12_markOf : Cond) ∈ wsX12_lineRead := rl_wsX12_lineRead_r3 _ (List.mem_of_getElem? (i := 10) rfl)
theorem mw_X12_lineRead__60 : (.selects RX12 yX12_markOf yX12_markOf : Cond) ∈ wsX12_lineRead := rl_wsX12_lineRead_r3 _ (List.mem_of_getElem? (i := 11) rfl)
theorem mw_X12_lineRead__61 : (.code yX12_markOf cX12_markOf 3 (some .int) : Cond) ∈ wsX12_lineRead := rl_wsX12_lineRead_r3 _ (List.mem_of_getElem? (i := 12) rfl)
theorem mw_X12_lineRead__62 : (.methodLink RX12 215 yX12_barLine : Cond) ∈ wsX12_lineRead := rl_wsX12_lineRead_r3 _ (List.mem_of_getElem? (i := 13) rfl)
theorem mw_X12_lineRead__63 : (.instanceMethod yX12_barLine : Cond) ∈ wsX12_lineRead := rl_wsX12_lineRead_r3 _ (List.mem_of_getElem? (i := 14) rfl)
theorem mw_X12_lineRead__64 : (.selects RX12 yX12_barLine yX12_barLine : Cond) ∈ wsX12_lineRead := rl_wsX12_lineRead_r3 _ (List.mem_of_getElem? (i := 15) rfl)
theorem mw_X12_lineRead__65 : (.code yX12_barLine cX12_barLine 4 (some .boolean) : Cond) ∈ wsX12_lineRead := rl_wsX12_lineRead_r3 _ (List.mem_of_getElem? (i := 16) rfl)
theorem mw_X12_lineRead__66 : (.fieldLink RX12 182 "BallPotsModel" "barsRead" "I" : Cond) ∈ wsX12_lineRead := rl_wsX12_lineRead_r3 _ (List.mem_of_getElem? (i := 17) rfl)
theorem mw_X12_lineRead__67 : (.fieldLink RX12 41 "BallPotsModel" "barRead" "[I" : Cond) ∈ wsX12_lineRead := rl_wsX12_lineRead_r3 _ (List.mem_of_getElem? (i := 18) rfl)
theorem mw_X12_look__1 : (.fieldLink RX12 132 "BallPotsModel" "thrown" "I" : Cond) ∈ wsX12_look := List.mem_of_getElem? (i := 1) rfl
theorem mw_X12_look__2 : (.fieldLink RX12 222 "BallPotsModel" "marks" "I" : Cond) ∈ wsX12_look := List.mem_of_getElem? (i := 2) rfl
theorem mw_X12_look__3 : (.fieldLink RX12 26 "BallPotsModel" "marked" "[I" : Cond) ∈ wsX12_look := List.mem_of_getElem? (i := 3) rfl
theorem mw_X12_look__4 : (.fieldLink RX12 185 "BallPotsModel" "groups" "I" : Cond) ∈ wsX12_look := List.mem_of_getElem? (i := 4) rfl
theorem mw_X12_look__5 : (.methodLink RX12 269 yX12_isTeam : Cond) ∈ wsX12_look := List.mem_of_getElem? (i := 5) rfl
theorem mw_X12_look__6 : (.instanceMethod yX12_isTeam : Cond) ∈ wsX12_look := List.mem_of_getElem? (i := 6) rfl
theorem mw_X12_look__7 : (.selects RX12 yX12_isTeam yX12_isTeam : Cond) ∈ wsX12_look := List.mem_of_getElem? (i := 7) rfl
theorem mw_X12_look__8 : (.initialized RX12 : Cond) ∈ wsX12_look := List.mem_of_getElem? (i := 8) rfl
theorem mw_X12_look__9 : (.code yX12_isTeam cX12_isTeam 2 (some .boolean) : Cond) ∈ wsX12_look := List.mem_of_getElem? (i := 9) rfl
theorem mw_X12_look__10 : (.methodLink RX12 241 yX12_teams : Cond) ∈ wsX12_look := List.mem_of_getElem? (i := 10) rfl
theorem mw_X12_look__11 : (.instanceMethod yX12_teams : Cond) ∈ wsX12_look := List.mem_of_getElem? (i := 11) rfl
theorem mw_X12_look__12 : (.selects RX12 yX12_teams yX12_teams : Cond) ∈ wsX12_look := List.mem_of_getElem? (i := 12) rfl
theorem mw_X12_look__13 : (.code yX12_teams cX12_teams 1 (some .int) : Cond) ∈ wsX12_look := List.mem_of_getElem? (i := 13) rfl
theorem mw_X12_look__14 : (.fieldLink RX12 188 "BallPotsModel" "pots" "I" : Cond) ∈ wsX12_look := List.mem_of_getElem? (i := 14) rfl
theorem mw_X12_look__15 : (.methodLink RX12 410 yX12_fails : Cond) ∈ wsX12_look := List.mem_of_getElem? (i := 15) rfl
theorem mw_X12_look__16 : (.instanceMethod yX12_fails : Cond) ∈ wsX12_look := List.mem_of_getElem? (i := 16) rfl
theorem mw_X12_look__17 : (.selects RX12 yX12_fails yX12_fails : Cond) ∈ wsX12_look := List.mem_of_getElem? (i := 17) rfl
theorem mw_X12_look__18 : (.code yX12_fails cX12_fails 2 (some .int) : Cond) ∈ wsX12_look := List.mem_of_getElem? (i := 18) rfl
theorem mw_X12_look__19 : (.methodLink RX12 237 yX12_isIn : Cond) ∈ wsX12_look := List.mem_of_getElem? (i := 19) rfl
theorem mw_X12_look__20 : (.static yX12_isIn : Cond) ∈ wsX12_look := List.mem_of_getElem? (i := 20) rfl
theorem mw_X12_look__21 : (.code yX12_isIn cX12_isIn 3 (some .boolean) : Cond) ∈ wsX12_look := List.mem_of_getElem? (i := 21) rfl
theorem mw_X12_markLine__1 : (.fieldLink RX12 179 "BallPotsModel" "marksRead" "I" : Cond) ∈ wsX12_markLine := rl_wsX12_markLine_r1 _ (List.mem_of_getElem? (i := 0) rfl)
theorem mw_X12_markLine__2 : (.fieldLink RX12 150 "BallPotsModel" "kind" "I" : Cond) ∈ wsX12_markLine := rl_wsX12_markLine_r1 _ (List.mem_of_getElem? (i := 1) rfl)
theorem mw_X12_markLine__3 : (.fieldLink RX12 161 "BallPotsModel" "which" "I" : Cond) ∈ wsX12_markLine := rl_wsX12_markLine_r1 _ (List.mem_of_getElem? (i := 2) rfl)
theorem mw_X12_markLine__4 : (.fieldLink RX12 35 "BallPotsModel" "markRead" "[I" : Cond) ∈ wsX12_markLine := rl_wsX12_markLine_r1 _ (List.mem_of_getElem? (i := 3) rfl)
theorem mw_X12_markLine__5 : (.fieldLink RX12 38 "BallPotsModel" "markedRead" "[I" : Cond) ∈ wsX12_markLine := rl_wsX12_markLine_r1 _ (List.mem_of_getElem? (i := 4) rfl)
theorem mw_X12_markLine__6 : (.methodLink RX12 191 yX12_wrong : Cond) ∈ wsX12_markLine := rl_wsX12_markLine_r1 _ (List.mem_of_getElem? (i := 5) rfl)
theorem mw_X12_markLine__7 : (.instanceMethod yX12_wrong : Cond) ∈ wsX12_markLine := rl_wsX12_markLine_r1 _ (List.mem_of_getElem? (i := 6) rfl)
theorem mw_X12_markLine__8 : (.selects RX12 yX12_wrong yX12_wrong : Cond) ∈ wsX12_markLine := rl_wsX12_markLine_r1 _ (List.mem_of_getElem? (i := 7) rfl)
theorem mw_X12_markLine__9 : (.initialized RX12 : Cond) ∈ wsX12_markLine := rl_wsX12_markLine_r1 _ (List.mem_of_getElem? (i := 8) rfl)
theorem mw_X12_markLine__10 : (.code yX12_wrong cX12_wrong 2 (some .boolean) : Cond) ∈ wsX12_markLine := rl_wsX12_markLine_r1 _ (List.mem_of_getElem? (i := 9) rfl)
theorem mw_X12_markLine__11 : (.fieldLink RX12 138 "BallPotsModel" "fault" "I" : Cond) ∈ wsX12_markLine := rl_wsX12_markLine_r1 _ (List.mem_of_getElem? (i := 10) rfl)
theorem mw_X12_markLine__12 : (.fieldLink RX12 141 "BallPotsModel" "place" "I" : Cond) ∈ wsX12_markLine := rl_wsX12_markLine_r1 _ (List.mem_of_getElem? (i := 11) rfl)
theorem mw_X12_markLine__13 : (.fieldLink RX12 16 "BallPotsModel" "faultPlace" "I" : Cond) ∈ wsX12_markLine := rl_wsX12_markLine_r1 _ (List.mem_of_getElem? (i := 12) rfl)
theorem mw_X12_markLine__14 : (.methodLink RX12 194 yX12_take : Cond) ∈ wsX12_markLine := rl_wsX12_markLine_r1 _ (List.mem_of_getElem? (i := 13) rfl)
theorem mw_X12_markLine__15 : (.instanceMethod yX12_take : Cond) ∈ wsX12_markLine := rl_wsX12_markLine_r1 _ (List.mem_of_getElem? (i := 14) rfl)
theorem mw_X12_markLine__16 : (.selects RX12 yX12_take yX12_take : Cond) ∈ wsX12_markLine := rl_wsX12_markLine_r1 _ (List.mem_of_getElem? (i := 15) rfl)
theorem mw_X12_markLine__17 : (.code yX12_take cX12_take 1 none : Cond) ∈ wsX12_markLine := rl_wsX12_markLine_r1 _ (List.mem_of_getElem? (i := 16) rfl)
theorem mw_X12_markLine__18 : (.fieldLink RX12 147 "BallPotsModel" "next" "I" : Cond) ∈ wsX12_markLine := rl_wsX12_markLine_r1 _ (List.mem_of_getElem? (i := 17) rfl)
theorem mw_X12_markLine__19 : (.fieldLink RX12 144 "BallPotsModel" "stop" "I" : Cond) ∈ wsX12_markLine := rl_wsX12_markLine_r1 _ (List.mem_of_getElem? (i := 18) rfl)
theorem mw_X12_markLine__20 : (.fieldLink RX12 7 "BallPotsModel" "tape" "[I" : Cond) ∈ wsX12_markLine := rl_wsX12_markLine_r1 _ (List.mem_of_getElem? (i := 19) rfl)
theorem mw_X12_markLine__21 : (.methodLink RX12 153 yX12_isSmall : Cond) ∈ wsX12_markLine := rl_wsX12_markLine_r1 _ (List.mem_of_getElem? (i := 20) rfl)
theorem mw_X12_markLine__22 : (.instanceMethod yX12_isSmall : Cond) ∈ wsX12_markLine := rl_wsX12_markLine_r1 _ (List.mem_of_getElem? (i := 21) rfl)
theorem mw_X12_markLine__23 : (.selects RX12 yX12_isSmall yX12_isSmall : Cond) ∈ wsX12_markLine := rl_wsX12_markLine_r1 _ (List.mem_of_getElem? (i := 22) rfl)
theorem mw_X12_markLine__24 : (.code yX12_isSmall cX12_isSmall 2 (some .boolean) : Cond) ∈ wsX12_markLine := rl_wsX12_markLine_r1 _ (List.mem_of_getElem? (i := 23) rfl)
theorem mw_X12_markLine__25 : (.methodLink RX12 157 yX12_wordAt : Cond) ∈ wsX12_markLine := rl_wsX12_markLine_r2 _ (List.mem_of_getElem? (i := 0) rfl)
theorem mw_X12_markLine__26 : (.instanceMethod yX12_wordAt : Cond) ∈ wsX12_markLine := rl_wsX12_markLine_r2 _ (List.mem_of_getElem? (i := 1) rfl)
theorem mw_X12_markLine__27 : (.selects RX12 yX12_wordAt yX12_wordAt : Cond) ∈ wsX12_markLine := rl_wsX12_markLine_r2 _ (List.mem_of_getElem? (i := 2) rfl)
theorem mw_X12_markLine__28 : (.code yX12_wordAt cX12_wordAt 8 (some .int) : Cond) ∈ wsX12_markLine := rl_wsX12_markLine_r2 _ (List.mem_of_getElem? (i := 3) rfl)
theorem mw_X12_markLine__29 : (.fieldLink RX12 13 "BallPotsModel" "words" "[I" : Cond) ∈ wsX12_markLine := rl_wsX12_markLine_r2 _ (List.mem_of_getElem? (i := 4) rfl)
theorem mw_X12_markLine__30 : (.methodLink RX12 164 yX12_packed : Cond) ∈ wsX12_markLine := rl_wsX12_markLine_r2 _ (List.mem_of_getElem? (i := 5) rfl)
theorem mw_X12_markLine__31 : (.instanceMethod yX12_packed : Cond) ∈ wsX12_markLine := rl_wsX12_markLine_r2 _ (List.mem_of_getElem? (i := 6) rfl)
theorem mw_X12_markLine__32 : (.selects RX12 yX12_packed yX12_packed : Cond) ∈ wsX12_markLine := rl_wsX12_markLine_r2 _ (List.mem_of_getElem? (i := 7) rfl)
theorem mw_X12_markLine__33 : (.code yX12_packed cX12_packed 5 (some .int) : Cond) ∈ wsX12_markLine := rl_wsX12_markLine_r2 _ (List.mem_of_getElem? (i := 8) rfl)
theorem mw_X12_markLine__34 : (.methodLink RX12 167 yX12_isDigit : Cond) ∈ wsX12_markLine := rl_wsX12_markLine_r2 _ (List.mem_of_getElem? (i := 9) rfl)
theorem mw_X12_markLine__35 : (.instanceMethod yX12_isDigit : Cond) ∈ wsX12_markLine := rl_wsX12_markLine_r2 _ (List.mem_of_getElem? (i := 10) rfl)
theorem mw_X12_markLine__36 : (.selects RX12 yX12_isDigit yX12_isDigit : Cond) ∈ wsX12_markLine := rl_wsX12_markLine_r2 _ (List.mem_of_getElem? (i := 11) rfl)
theorem mw_X12_markLine__37 : (.code yX12_isDigit cX12_isDigit 2 (some .boolean) : Cond) ∈ wsX12_markLine := rl_wsX12_markLine_r2 _ (List.mem_of_getElem? (i := 12) rfl)
theorem mw_X12_markLine__38 : (.methodLink RX12 201 yX12_markOf : Cond) ∈ wsX12_markLine := rl_wsX12_markLine_r2 _ (List.mem_of_getElem? (i := 13) rfl)
theorem mw_X12_markLine__39 : (.instanceMethod yX12_markOf : Cond) ∈ wsX12_markLine := rl_wsX12_markLine_r2 _ (List.mem_of_getElem? (i := 14) rfl)
theorem mw_X12_markLine__40 : (.selects RX12 yX12_markOf yX12_markOf : Cond) ∈ wsX12_markLine := rl_wsX12_markLine_r2 _ (List.mem_of_getElem? (i := 15) rfl)
theorem mw_X12_markLine__41 : (.code yX12_markOf cX12_markOf 3 (some .int) : Cond) ∈ wsX12_markLine := rl_wsX12_markLine_r2 _ (List.mem_of_getElem? (i := 16) rfl)
theorem mw_X12_markLine__42 : (.methodLink RX12 197 yX12_teamOf : Cond) ∈ wsX12_markLine := rl_wsX12_markLine_r2 _ (List.mem_of_getElem? (i := 17) rfl)
theorem mw_X12_markLine__43 : (.instanceMethod yX12_teamOf : Cond) ∈ wsX12_markLine := rl_wsX12_markLine_r2 _ (List.mem_of_getElem? (i := 18) rfl)
theorem mw_X12_markLine__44 : (.selects RX12 yX12_teamOf yX12_teamOf : Cond) ∈ wsX12_markLine := rl_wsX12_markLine_r2 _ (List.mem_of_getElem? (i := 19) rfl)
theorem mw_X12_markLine__45 : (.code yX12_teamOf cX12_teamOf 3 (some .int) : Cond) ∈ wsX12_markLine := rl_wsX12_markLine_r2 _ (List.mem_of_getElem? (i := 20) rfl)
theorem mw_X12_markLine__46 : (.fieldLink RX12 176 "BallPotsModel" "teamsRead" "I" : Cond) ∈ wsX12_markLine := rl_wsX12_markLine_r2 _ (List.mem_of_getElem? (i := 21) rfl)
theorem mw_X12_markLine__47 : (.fieldLink RX12 32 "BallPotsModel" "teamRead" "[I" : Cond) ∈ wsX12_markLine := rl_wsX12_markLine_r2 _ (List.mem_of_getElem? (i := 22) rfl)
theorem mw_X12_markOf__1 : (.fieldLink RX12 179 "BallPotsModel" "marksRead" "I" : Cond) ∈ wsX12_markOf := List.mem_of_getElem? (i := 1) rfl
theorem mw_X12_markOf__2 : (.fieldLink RX12 35 "BallPotsModel" "markRead" "[I" : Cond) ∈ wsX12_markOf := List.mem_of_getElem? (i := 2) rfl
theorem mw_X12_mix__1 : (.fieldLink RX12 132 "BallPotsModel" "thrown" "I" : Cond) ∈ wsX12_mix := rl_wsX12_mix_r1 _ (List.mem_of_getElem? (i := 0) rfl)
theorem mw_X12_mix__2 : (.fieldLink RX12 248 "BallPotsModel" "draws" "I" : Cond) ∈ wsX12_mix := rl_wsX12_mix_r1 _ (List.mem_of_getElem? (i := 1) rfl)
theorem mw_X12_mix__3 : (.fieldLink RX12 251 "BallPotsModel" "lawful" "I" : Cond) ∈ wsX12_mix := rl_wsX12_mix_r1 _ (List.mem_of_getElem? (i := 2) rfl)
theorem mw_X12_mix__4 : (.fieldLink RX12 120 "BallPotsModel" "rows" "[I" : Cond) ∈ wsX12_mix := rl_wsX12_mix_r1 _ (List.mem_of_getElem? (i := 3) rfl)
theorem mw_X12_mix__5 : (.methodLink RX12 237 yX12_isIn : Cond) ∈ wsX12_mix := rl_wsX12_mix_r1 _ (List.mem_of_getElem? (i := 4) rfl)
theorem mw_X12_mix__6 : (.static yX12_isIn : Cond) ∈ wsX12_mix := rl_wsX12_mix_r1 _ (List.mem_of_getElem? (i := 5) rfl)
theorem mw_X12_mix__7 : (.initialized RX12 : Cond) ∈ wsX12_mix := rl_wsX12_mix_r1 _ (List.mem_of_getElem? (i := 6) rfl)
theorem mw_X12_mix__8 : (.code yX12_isIn cX12_isIn 3 (some .boolean) : Cond) ∈ wsX12_mix := rl_wsX12_mix_r1 _ (List.mem_of_getElem? (i := 7) rfl)
theorem mw_X12_mix__9 : (.methodLink RX12 393 yX12_mixes : Cond) ∈ wsX12_mix := rl_wsX12_mix_r1 _ (List.mem_of_getElem? (i := 8) rfl)
theorem mw_X12_mix__10 : (.instanceMethod yX12_mixes : Cond) ∈ wsX12_mix := rl_wsX12_mix_r1 _ (List.mem_of_getElem? (i := 9) rfl)
theorem mw_X12_mix__11 : (.selects RX12 yX12_mixes yX12_mixes : Cond) ∈ wsX12_mix := rl_wsX12_mix_r1 _ (List.mem_of_getElem? (i := 10) rfl)
theorem mw_X12_mix__12 : (.code yX12_mixes cX12_mixes 5 none : Cond) ∈ wsX12_mix := rl_wsX12_mix_r1 _ (List.mem_of_getElem? (i := 11) rfl)
theorem mw_X12_mix__13 : (.fieldLink RX12 47 "BallPotsModel" "breaks" "[I" : Cond) ∈ wsX12_mix := rl_wsX12_mix_r1 _ (List.mem_of_getElem? (i := 12) rfl)
theorem mw_X12_mix__14 : (.fieldLink RX12 387 "BallPotsModel" "rowsInAll" "J" : Cond) ∈ wsX12_mix := rl_wsX12_mix_r1 _ (List.mem_of_getElem? (i := 13) rfl)
theorem mw_X12_mix__15 : (.fieldLink RX12 123 "BallPotsModel" "then" "[I" : Cond) ∈ wsX12_mix := rl_wsX12_mix_r1 _ (List.mem_of_getElem? (i := 14) rfl)
theorem mw_X12_mix__16 : (.fieldLink RX12 188 "BallPotsModel" "pots" "I" : Cond) ∈ wsX12_mix := rl_wsX12_mix_r1 _ (List.mem_of_getElem? (i := 15) rfl)
theorem mw_X12_mix__17 : (.fieldLink RX12 185 "BallPotsModel" "groups" "I" : Cond) ∈ wsX12_mix := rl_wsX12_mix_r1 _ (List.mem_of_getElem? (i := 16) rfl)
theorem mw_X12_mix__18 : (.methodLink RX12 377 yX12_laySwaps : Cond) ∈ wsX12_mix := rl_wsX12_mix_r1 _ (List.mem_of_getElem? (i := 17) rfl)
theorem mw_X12_mix__19 : (.instanceMethod yX12_laySwaps : Cond) ∈ wsX12_mix := rl_wsX12_mix_r1 _ (List.mem_of_getElem? (i := 18) rfl)
theorem mw_X12_mix__20 : (.selects RX12 yX12_laySwaps yX12_laySwaps : Cond) ∈ wsX12_mix := rl_wsX12_mix_r1 _ (List.mem_of_getElem? (i := 19) rfl)
theorem mw_X12_mix__21 : (.code yX12_laySwaps cX12_laySwaps 8 none : Cond) ∈ wsX12_mix := rl_wsX12_mix_r1 _ (List.mem_of_getElem? (i := 20) rfl)
theorem mw_X12_mix__22 : (.fieldLink RX12 114 "BallPotsModel" "step" "[I" : Cond) ∈ wsX12_mix := rl_wsX12_mix_r1 _ (List.mem_of_getElem? (i := 21) rfl)
theorem mw_X12_mix__23 : (.fieldLink RX12 245 "BallPotsModel" "ranks" "I" : Cond) ∈ wsX12_mix := rl_wsX12_mix_r1 _ (List.mem_of_getElem? (i := 22) rfl)
theorem mw_X12_mix__24 : (.fieldLink RX12 44 "BallPotsModel" "row" "[I" : Cond) ∈ wsX12_mix := rl_wsX12_mix_r1 _ (List.mem_of_getElem? (i := 23) rfl)
theorem mw_X12_mix__25 : (.fieldLink RX12 93 "BallPotsModel" "power" "[I" : Cond) ∈ wsX12_mix := rl_wsX12_mix_r2 _ (List.mem_of_getElem? (i := 0) rfl)
theorem mw_X12_mix__26 : (.fieldLink RX12 117 "BallPotsModel" "turned" "[I" : Cond) ∈ wsX12_mix := rl_wsX12_mix_r2 _ (List.mem_of_getElem? (i := 1) rfl)
theorem mw_X12_mix__27 : (.methodLink RX12 304 yX12_turnsAs : Cond) ∈ wsX12_mix := rl_wsX12_mix_r2 _ (List.mem_of_getElem? (i := 2) rfl)
theorem mw_X12_mix__28 : (.instanceMethod yX12_turnsAs : Cond) ∈ wsX12_mix := rl_wsX12_mix_r2 _ (List.mem_of_getElem? (i := 3) rfl)
theorem mw_X12_mix__29 : (.selects RX12 yX12_turnsAs yX12_turnsAs : Cond) ∈ wsX12_mix := rl_wsX12_mix_r2 _ (List.mem_of_getElem? (i := 4) rfl)
theorem mw_X12_mix__30 : (.code yX12_turnsAs cX12_turnsAs 2 none : Cond) ∈ wsX12_mix := rl_wsX12_mix_r2 _ (List.mem_of_getElem? (i := 5) rfl)
theorem mw_X12_mix__31 : (.fieldLink RX12 71 "BallPotsModel" "turn" "[I" : Cond) ∈ wsX12_mix := rl_wsX12_mix_r2 _ (List.mem_of_getElem? (i := 6) rfl)
theorem mw_X12_mix__32 : (.fieldLink RX12 59 "BallPotsModel" "order" "[I" : Cond) ∈ wsX12_mix := rl_wsX12_mix_r2 _ (List.mem_of_getElem? (i := 7) rfl)
theorem mw_X12_mix__33 : (.fieldLink RX12 74 "BallPotsModel" "look" "[I" : Cond) ∈ wsX12_mix := rl_wsX12_mix_r2 _ (List.mem_of_getElem? (i := 8) rfl)
theorem mw_X12_mix__34 : (.fieldLink RX12 62 "BallPotsModel" "arranged" "[I" : Cond) ∈ wsX12_mix := rl_wsX12_mix_r2 _ (List.mem_of_getElem? (i := 9) rfl)
theorem mw_X12_mix__35 : (.methodLink RX12 311 yX12_layMasks : Cond) ∈ wsX12_mix := rl_wsX12_mix_r2 _ (List.mem_of_getElem? (i := 10) rfl)
theorem mw_X12_mix__36 : (.instanceMethod yX12_layMasks : Cond) ∈ wsX12_mix := rl_wsX12_mix_r2 _ (List.mem_of_getElem? (i := 11) rfl)
theorem mw_X12_mix__37 : (.selects RX12 yX12_layMasks yX12_layMasks : Cond) ∈ wsX12_mix := rl_wsX12_mix_r2 _ (List.mem_of_getElem? (i := 12) rfl)
theorem mw_X12_mix__38 : (.code yX12_layMasks cX12_layMasks 6 none : Cond) ∈ wsX12_mix := rl_wsX12_mix_r2 _ (List.mem_of_getElem? (i := 13) rfl)
theorem mw_X12_mix__39 : (.fieldLink RX12 77 "BallPotsModel" "level" "[I" : Cond) ∈ wsX12_mix := rl_wsX12_mix_r2 _ (List.mem_of_getElem? (i := 14) rfl)
theorem mw_X12_mix__40 : (.fieldLink RX12 80 "BallPotsModel" "mask" "[I" : Cond) ∈ wsX12_mix := rl_wsX12_mix_r2 _ (List.mem_of_getElem? (i := 15) rfl)
theorem mw_X12_mix__41 : (.fieldLink RX12 87 "BallPotsModel" "indexOf" "[I" : Cond) ∈ wsX12_mix := rl_wsX12_mix_r2 _ (List.mem_of_getElem? (i := 16) rfl)
theorem mw_X12_mix__42 : (.fieldLink RX12 90 "BallPotsModel" "having" "[I" : Cond) ∈ wsX12_mix := rl_wsX12_mix_r2 _ (List.mem_of_getElem? (i := 17) rfl)
theorem mw_X12_mix__43 : (.fieldLink RX12 288 "BallPotsModel" "parts" "I" : Cond) ∈ wsX12_mix := rl_wsX12_mix_r2 _ (List.mem_of_getElem? (i := 18) rfl)
theorem mw_X12_mix__44 : (.methodLink RX12 254 yX12_rankIn : Cond) ∈ wsX12_mix := rl_wsX12_mix_r2 _ (List.mem_of_getElem? (i := 19) rfl)
theorem mw_X12_mix__45 : (.instanceMethod yX12_rankIn : Cond) ∈ wsX12_mix := rl_wsX12_mix_r2 _ (List.mem_of_getElem? (i := 20) rfl)
theorem mw_X12_mix__46 : (.selects RX12 yX12_rankIn yX12_rankIn : Cond) ∈ wsX12_mix := rl_wsX12_mix_r2 _ (List.mem_of_getElem? (i := 21) rfl)
theorem mw_X12_mix__47 : (.code yX12_rankIn cX12_rankIn 5 (some .int) : Cond) ∈ wsX12_mix := rl_wsX12_mix_r2 _ (List.mem_of_getElem? (i := 22) rfl)
theorem mw_X12_mix__48 : (.methodLink RX12 317 yX12_rankOf : Cond) ∈ wsX12_mix := rl_wsX12_mix_r2 _ (List.mem_of_getElem? (i := 23) rfl)
theorem mw_X12_mix__49 : (.instanceMethod yX12_rankOf : Cond) ∈ wsX12_mix := rl_wsX12_mix_r3 _ (List.mem_of_getElem? (i := 0) rfl)
theorem mw_X12_mix__50 : (.selects RX12 yX12_rankOf yX12_rankOf : Cond) ∈ wsX12_mix := rl_wsX12_mix_r3 _ (List.mem_of_getElem? (i := 1) rfl)
theorem mw_X12_mix__51 : (.code yX12_rankOf cX12_rankOf 4 (some .int) : Cond) ∈ wsX12_mix := rl_wsX12_mix_r3 _ (List.mem_of_getElem? (i := 2) rfl)
theorem mw_X12_mix__52 : (.methodLink RX12 294 yX12_agreeing : Cond) ∈ wsX12_mix := rl_wsX12_mix_r3 _ (List.mem_of_getElem? (i := 3) rfl)
theorem mw_X12_mix__53 : (.instanceMethod yX12_agreeing : Cond) ∈ wsX12_mix := rl_wsX12_mix_r3 _ (List.mem_of_getElem? (i := 4) rfl)
theorem mw_X12_mix__54 : (.selects RX12 yX12_agreeing yX12_agreeing : Cond) ∈ wsX12_mix := rl_wsX12_mix_r3 _ (List.mem_of_getElem? (i := 5) rfl)
theorem mw_X12_mix__55 : (.code yX12_agreeing cX12_agreeing 5 (some .int) : Cond) ∈ wsX12_mix := rl_wsX12_mix_r3 _ (List.mem_of_getElem? (i := 6) rfl)
theorem mw_X12_mix__56 : (.methodLink RX12 291 yX12_digit : Cond) ∈ wsX12_mix := rl_wsX12_mix_r3 _ (List.mem_of_getElem? (i := 7) rfl)
theorem mw_X12_mix__57 : (.instanceMethod yX12_digit : Cond) ∈ wsX12_mix := rl_wsX12_mix_r3 _ (List.mem_of_getElem? (i := 8) rfl)
theorem mw_X12_mix__58 : (.selects RX12 yX12_digit yX12_digit : Cond) ∈ wsX12_mix := rl_wsX12_mix_r3 _ (List.mem_of_getElem? (i := 9) rfl)
theorem mw_X12_mix__59 : (.code yX12_digit cX12_digit 3 (some .int) : Cond) ∈ wsX12_mix := rl_wsX12_mix_r3 _ (List.mem_of_getElem? (i := 10) rfl)
theorem mw_X12_mix__60 : (.methodLink RX12 390 yX12_mixesOne : Cond) ∈ wsX12_mix := rl_wsX12_mix_r3 _ (List.mem_of_getElem? (i := 11) rfl)
theorem mw_X12_mix__61 : (.instanceMethod yX12_mixesOne : Cond) ∈ wsX12_mix := rl_wsX12_mix_r3 _ (List.mem_of_getElem? (i := 12) rfl)
theorem mw_X12_mix__62 : (.selects RX12 yX12_mixesOne yX12_mixesOne : Cond) ∈ wsX12_mix := rl_wsX12_mix_r3 _ (List.mem_of_getElem? (i := 13) rfl)
theorem mw_X12_mix__63 : (.code yX12_mixesOne cX12_mixesOne 6 none : Cond) ∈ wsX12_mix := rl_wsX12_mix_r3 _ (List.mem_of_getElem? (i := 14) rfl)
theorem mw_X12_mix__64 : (.methodLink RX12 383 yX12_swapped : Cond) ∈ wsX12_mix := rl_wsX12_mix_r3 _ (List.mem_of_getElem? (i := 15) rfl)
theorem mw_X12_mix__65 : (.instanceMethod yX12_swapped : Cond) ∈ wsX12_mix := rl_wsX12_mix_r3 _ (List.mem_of_getElem? (i := 16) rfl)
theorem mw_X12_mix__66 : (.selects RX12 yX12_swapped yX12_swapped : Cond) ∈ wsX12_mix := rl_wsX12_mix_r3 _ (List.mem_of_getElem? (i := 17) rfl)
theorem mw_X12_mix__67 : (.code yX12_swapped cX12_swapped 6 (some .int) : Cond) ∈ wsX12_mix := rl_wsX12_mix_r3 _ (List.mem_of_getElem? (i := 18) rfl)
theorem mw_X12_mixed__1 : (.fieldLink RX12 132 "BallPotsModel" "thrown" "I" : Cond) ∈ wsX12_mixed := rl_wsX12_mixed_r1 _ (List.mem_of_getElem? (i := 0) rfl)
theorem mw_X12_mixed__2 : (.fieldLink RX12 251 "BallPotsModel" "lawful" "I" : Cond) ∈ wsX12_mixed := rl_wsX12_mixed_r1 _ (List.mem_of_getElem? (i := 1) rfl)
theorem mw_X12_mixed__3 : (.constantLong RX12 327 (-1) : Cond) ∈ wsX12_mixed := rl_wsX12_mixed_r1 _ (List.mem_of_getElem? (i := 2) rfl)
theorem mw_X12_mixed__4 : (.fieldLink RX12 387 "BallPotsModel" "rowsInAll" "J" : Cond) ∈ wsX12_mixed := rl_wsX12_mixed_r1 _ (List.mem_of_getElem? (i := 3) rfl)
theorem mw_X12_mixed__5 : (.fieldLink RX12 248 "BallPotsModel" "draws" "I" : Cond) ∈ wsX12_mixed := rl_wsX12_mixed_r1 _ (List.mem_of_getElem? (i := 4) rfl)
theorem mw_X12_mixed__6 : (.fieldLink RX12 47 "BallPotsModel" "breaks" "[I" : Cond) ∈ wsX12_mixed := rl_wsX12_mixed_r1 _ (List.mem_of_getElem? (i := 5) rfl)
theorem mw_X12_mixed__7 : (.fieldLink RX12 120 "BallPotsModel" "rows" "[I" : Cond) ∈ wsX12_mixed := rl_wsX12_mixed_r1 _ (List.mem_of_getElem? (i := 6) rfl)
theorem mw_X12_mixed__8 : (.methodLink RX12 237 yX12_isIn : Cond) ∈ wsX12_mixed := rl_wsX12_mixed_r1 _ (List.mem_of_getElem? (i := 7) rfl)
theorem mw_X12_mixed__9 : (.static yX12_isIn : Cond) ∈ wsX12_mixed := rl_wsX12_mixed_r1 _ (List.mem_of_getElem? (i := 8) rfl)
theorem mw_X12_mixed__10 : (.initialized RX12 : Cond) ∈ wsX12_mixed := rl_wsX12_mixed_r1 _ (List.mem_of_getElem? (i := 9) rfl)
theorem mw_X12_mixed__11 : (.code yX12_isIn cX12_isIn 3 (some .boolean) : Cond) ∈ wsX12_mixed := rl_wsX12_mixed_r1 _ (List.mem_of_getElem? (i := 10) rfl)
theorem mw_X12_mixed__12 : (.methodLink RX12 393 yX12_mixes : Cond) ∈ wsX12_mixed := rl_wsX12_mixed_r1 _ (List.mem_of_getElem? (i := 11) rfl)
theorem mw_X12_mixed__13 : (.instanceMethod yX12_mixes : Cond) ∈ wsX12_mixed := rl_wsX12_mixed_r1 _ (List.mem_of_getElem? (i := 12) rfl)
theorem mw_X12_mixed__14 : (.selects RX12 yX12_mixes yX12_mixes : Cond) ∈ wsX12_mixed := rl_wsX12_mixed_r1 _ (List.mem_of_getElem? (i := 13) rfl)
theorem mw_X12_mixed__15 : (.code yX12_mixes cX12_mixes 5 none : Cond) ∈ wsX12_mixed := rl_wsX12_mixed_r1 _ (List.mem_of_getElem? (i := 14) rfl)
theorem mw_X12_mixed__16 : (.fieldLink RX12 123 "BallPotsModel" "then" "[I" : Cond) ∈ wsX12_mixed := rl_wsX12_mixed_r1 _ (List.mem_of_getElem? (i := 15) rfl)
theorem mw_X12_mixed__17 : (.fieldLink RX12 188 "BallPotsModel" "pots" "I" : Cond) ∈ wsX12_mixed := rl_wsX12_mixed_r1 _ (List.mem_of_getElem? (i := 16) rfl)
theorem mw_X12_mixed__18 : (.fieldLink RX12 185 "BallPotsModel" "groups" "I" : Cond) ∈ wsX12_mixed := rl_wsX12_mixed_r1 _ (List.mem_of_getElem? (i := 17) rfl)
theorem mw_X12_mixed__19 : (.methodLink RX12 377 yX12_laySwaps : Cond) ∈ wsX12_mixed := rl_wsX12_mixed_r1 _ (List.mem_of_getElem? (i := 18) rfl)
theorem mw_X12_mixed__20 : (.instanceMethod yX12_laySwaps : Cond) ∈ wsX12_mixed := rl_wsX12_mixed_r1 _ (List.mem_of_getElem? (i := 19) rfl)
theorem mw_X12_mixed__21 : (.selects RX12 yX12_laySwaps yX12_laySwaps : Cond) ∈ wsX12_mixed := rl_wsX12_mixed_r1 _ (List.mem_of_getElem? (i := 20) rfl)
theorem mw_X12_mixed__22 : (.code yX12_laySwaps cX12_laySwaps 8 none : Cond) ∈ wsX12_mixed := rl_wsX12_mixed_r1 _ (List.mem_of_getElem? (i := 21) rfl)
theorem mw_X12_mixed__23 : (.fieldLink RX12 114 "BallPotsModel" "step" "[I" : Cond) ∈ wsX12_mixed := rl_wsX12_mixed_r1 _ (List.mem_of_getElem? (i := 22) rfl)
theorem mw_X12_mixed__24 : (.fieldLink RX12 245 "BallPotsModel" "ranks" "I" : Cond) ∈ wsX12_mixed := rl_wsX12_mixed_r1 _ (List.mem_of_getElem? (i := 23) rfl)
theorem mw_X12_mixed__25 : (.fieldLink RX12 44 "BallPotsModel" "row" "[I" : Cond) ∈ wsX12_mixed := rl_wsX12_mixed_r2 _ (List.mem_of_getElem? (i := 0) rfl)
theorem mw_X12_mixed__26 : (.fieldLink RX12 93 "BallPotsModel" "power" "[I" : Cond) ∈ wsX12_mixed := rl_wsX12_mixed_r2 _ (List.mem_of_getElem? (i := 1) rfl)
theorem mw_X12_mixed__27 : (.fieldLink RX12 117 "BallPotsModel" "turned" "[I" : Cond) ∈ wsX12_mixed := rl_wsX12_mixed_r2 _ (List.mem_of_getElem? (i := 2) rfl)
theorem mw_X12_mixed__28 : (.methodLink RX12 304 yX12_turnsAs : Cond) ∈ wsX12_mixed := rl_wsX12_mixed_r2 _ (List.mem_of_getElem? (i := 3) rfl)
theorem mw_X12_mixed__29 : (.instanceMethod yX12_turnsAs : Cond) ∈ wsX12_mixed := rl_wsX12_mixed_r2 _ (List.mem_of_getElem? (i := 4) rfl)
theorem mw_X12_mixed__30 : (.selects RX12 yX12_turnsAs yX12_turnsAs : Cond) ∈ wsX12_mixed := rl_wsX12_mixed_r2 _ (List.mem_of_getElem? (i := 5) rfl)
theorem mw_X12_mixed__31 : (.code yX12_turnsAs cX12_turnsAs 2 none : Cond) ∈ wsX12_mixed := rl_wsX12_mixed_r2 _ (List.mem_of_getElem? (i := 6) rfl)
theorem mw_X12_mixed__32 : (.fieldLink RX12 71 "BallPotsModel" "turn" "[I" : Cond) ∈ wsX12_mixed := rl_wsX12_mixed_r2 _ (List.mem_of_getElem? (i := 7) rfl)
theorem mw_X12_mixed__33 : (.fieldLink RX12 59 "BallPotsModel" "order" "[I" : Cond) ∈ wsX12_mixed := rl_wsX12_mixed_r2 _ (List.mem_of_getElem? (i := 8) rfl)
theorem mw_X12_mixed__34 : (.fieldLink RX12 74 "BallPotsModel" "look" "[I" : Cond) ∈ wsX12_mixed := rl_wsX12_mixed_r2 _ (List.mem_of_getElem? (i := 9) rfl)
theorem mw_X12_mixed__35 : (.fieldLink RX12 62 "BallPotsModel" "arranged" "[I" : Cond) ∈ wsX12_mixed := rl_wsX12_mixed_r2 _ (List.mem_of_getElem? (i := 10) rfl)
theorem mw_X12_mixed__36 : (.methodLink RX12 311 yX12_layMasks : Cond) ∈ wsX12_mixed := rl_wsX12_mixed_r2 _ (List.mem_of_getElem? (i := 11) rfl)
theorem mw_X12_mixed__37 : (.instanceMethod yX12_layMasks : Cond) ∈ wsX12_mixed := rl_wsX12_mixed_r2 _ (List.mem_of_getElem? (i := 12) rfl)
theorem mw_X12_mixed__38 : (.selects RX12 yX12_layMasks yX12_layMasks : Cond) ∈ wsX12_mixed := rl_wsX12_mixed_r2 _ (List.mem_of_getElem? (i := 13) rfl)
theorem mw_X12_mixed__39 : (.code yX12_layMasks cX12_layMasks 6 none : Cond) ∈ wsX12_mixed := rl_wsX12_mixed_r2 _ (List.mem_of_getElem? (i := 14) rfl)
theorem mw_X12_mixed__40 : (.fieldLink RX12 77 "BallPotsModel" "level" "[I" : Cond) ∈ wsX12_mixed := rl_wsX12_mixed_r2 _ (List.mem_of_getElem? (i := 15) rfl)
theorem mw_X12_mixed__41 : (.fieldLink RX12 80 "BallPotsModel" "mask" "[I" : Cond) ∈ wsX12_mixed := rl_wsX12_mixed_r2 _ (List.mem_of_getElem? (i := 16) rfl)
theorem mw_X12_mixed__42 : (.fieldLink RX12 87 "BallPotsModel" "indexOf" "[I" : Cond) ∈ wsX12_mixed := rl_wsX12_mixed_r2 _ (List.mem_of_getElem? (i := 17) rfl)
theorem mw_X12_mixed__43 : (.fieldLink RX12 90 "BallPotsModel" "having" "[I" : Cond) ∈ wsX12_mixed := rl_wsX12_mixed_r2 _ (List.mem_of_getElem? (i := 18) rfl)
theorem mw_X12_mixed__44 : (.fieldLink RX12 288 "BallPotsModel" "parts" "I" : Cond) ∈ wsX12_mixed := rl_wsX12_mixed_r2 _ (List.mem_of_getElem? (i := 19) rfl)
theorem mw_X12_mixed__45 : (.methodLink RX12 254 yX12_rankIn : Cond) ∈ wsX12_mixed := rl_wsX12_mixed_r2 _ (List.mem_of_getElem? (i := 20) rfl)
theorem mw_X12_mixed__46 : (.instanceMethod yX12_rankIn : Cond) ∈ wsX12_mixed := rl_wsX12_mixed_r2 _ (List.mem_of_getElem? (i := 21) rfl)
theorem mw_X12_mixed__47 : (.selects RX12 yX12_rankIn yX12_rankIn : Cond) ∈ wsX12_mixed := rl_wsX12_mixed_r2 _ (List.mem_of_getElem? (i := 22) rfl)
theorem mw_X12_mixed__48 : (.code yX12_rankIn cX12_rankIn 5 (some .int) : Cond) ∈ wsX12_mixed := rl_wsX12_mixed_r2 _ (List.mem_of_getElem? (i := 23) rfl)
theorem mw_X12_mixed__49 : (.methodLink RX12 317 yX12_rankOf : Cond) ∈ wsX12_mixed := rl_wsX12_mixed_r3 _ (List.mem_of_getElem? (i := 0) rfl)
theorem mw_X12_mixed__50 : (.instanceMethod yX12_rankOf : Cond) ∈ wsX12_mixed := rl_wsX12_mixed_r3 _ (List.mem_of_getElem? (i := 1) rfl)
theorem mw_X12_mixed__51 : (.selects RX12 yX12_rankOf yX12_rankOf : Cond) ∈ wsX12_mixed := rl_wsX12_mixed_r3 _ (List.mem_of_getElem? (i := 2) rfl)
theorem mw_X12_mixed__52 : (.code yX12_rankOf cX12_rankOf 4 (some .int) : Cond) ∈ wsX12_mixed := rl_wsX12_mixed_r3 _ (List.mem_of_getElem? (i := 3) rfl)
theorem mw_X12_mixed__53 : (.methodLink RX12 294 yX12_agreeing : Cond) ∈ wsX12_mixed := rl_wsX12_mixed_r3 _ (List.mem_of_getElem? (i := 4) rfl)
theorem mw_X12_mixed__54 : (.instanceMethod yX12_agreeing : Cond) ∈ wsX12_mixed := rl_wsX12_mixed_r3 _ (List.mem_of_getElem? (i := 5) rfl)
theorem mw_X12_mixed__55 : (.selects RX12 yX12_agreeing yX12_agreeing : Cond) ∈ wsX12_mixed := rl_wsX12_mixed_r3 _ (List.mem_of_getElem? (i := 6) rfl)
theorem mw_X12_mixed__56 : (.code yX12_agreeing cX12_agreeing 5 (some .int) : Cond) ∈ wsX12_mixed := rl_wsX12_mixed_r3 _ (List.mem_of_getElem? (i := 7) rfl)
theorem mw_X12_mixed__57 : (.methodLink RX12 291 yX12_digit : Cond) ∈ wsX12_mixed := rl_wsX12_mixed_r3 _ (List.mem_of_getElem? (i := 8) rfl)
theorem mw_X12_mixed__58 : (.instanceMethod yX12_digit : Cond) ∈ wsX12_mixed := rl_wsX12_mixed_r3 _ (List.mem_of_getElem? (i := 9) rfl)
theorem mw_X12_mixed__59 : (.selects RX12 yX12_digit yX12_digit : Cond) ∈ wsX12_mixed := rl_wsX12_mixed_r3 _ (List.mem_of_getElem? (i := 10) rfl)
theorem mw_X12_mixed__60 : (.code yX12_digit cX12_digit 3 (some .int) : Cond) ∈ wsX12_mixed := rl_wsX12_mixed_r3 _ (List.mem_of_getElem? (i := 11) rfl)
theorem mw_X12_mixed__61 : (.methodLink RX12 390 yX12_mixesOne : Cond) ∈ wsX12_mixed := rl_wsX12_mixed_r3 _ (List.mem_of_getElem? (i := 12) rfl)
theorem mw_X12_mixed__62 : (.instanceMethod yX12_mixesOne : Cond) ∈ wsX12_mixed := rl_wsX12_mixed_r3 _ (List.mem_of_getElem? (i := 13) rfl)
theorem mw_X12_mixed__63 : (.selects RX12 yX12_mixesOne yX12_mixesOne : Cond) ∈ wsX12_mixed := rl_wsX12_mixed_r3 _ (List.mem_of_getElem? (i := 14) rfl)
theorem mw_X12_mixed__64 : (.code yX12_mixesOne cX12_mixesOne 6 none : Cond) ∈ wsX12_mixed := rl_wsX12_mixed_r3 _ (List.mem_of_getElem? (i := 15) rfl)
theorem mw_X12_mixed__65 : (.methodLink RX12 383 yX12_swapped : Cond) ∈ wsX12_mixed := rl_wsX12_mixed_r3 _ (List.mem_of_getElem? (i := 16) rfl)
theorem mw_X12_mixed__66 : (.instanceMethod yX12_swapped : Cond) ∈ wsX12_mixed := rl_wsX12_mixed_r3 _ (List.mem_of_getElem? (i := 17) rfl)
theorem mw_X12_mixed__67 : (.selects RX12 yX12_swapped yX12_swapped : Cond) ∈ wsX12_mixed := rl_wsX12_mixed_r3 _ (List.mem_of_getElem? (i := 18) rfl)
theorem mw_X12_mixed__68 : (.code yX12_swapped cX12_swapped 6 (some .int) : Cond) ∈ wsX12_mixed := rl_wsX12_mixed_r3 _ (List.mem_of_getElem? (i := 19) rfl)
theorem mw_X12_mixes__1 : (.fieldLink RX12 47 "BallPotsModel" "breaks" "[I" : Cond) ∈ wsX12_mixes := rl_wsX12_mixes_r1 _ (List.mem_of_getElem? (i := 0) rfl)
theorem mw_X12_mixes__2 : (.fieldLink RX12 248 "BallPotsModel" "draws" "I" : Cond) ∈ wsX12_mixes := rl_wsX12_mixes_r1 _ (List.mem_of_getElem? (i := 1) rfl)
theorem mw_X12_mixes__3 : (.fieldLink RX12 120 "BallPotsModel" "rows" "[I" : Cond) ∈ wsX12_mixes := rl_wsX12_mixes_r1 _ (List.mem_of_getElem? (i := 2) rfl)
theorem mw_X12_mixes__4 : (.fieldLink RX12 387 "BallPotsModel" "rowsInAll" "J" : Cond) ∈ wsX12_mixes := rl_wsX12_mixes_r1 _ (List.mem_of_getElem? (i := 3) rfl)
theorem mw_X12_mixes__5 : (.fieldLink RX12 123 "BallPotsModel" "then" "[I" : Cond) ∈ wsX12_mixes := rl_wsX12_mixes_r1 _ (List.mem_of_getElem? (i := 4) rfl)
theorem mw_X12_mixes__6 : (.fieldLink RX12 188 "BallPotsModel" "pots" "I" : Cond) ∈ wsX12_mixes := rl_wsX12_mixes_r1 _ (List.mem_of_getElem? (i := 5) rfl)
theorem mw_X12_mixes__7 : (.fieldLink RX12 185 "BallPotsModel" "groups" "I" : Cond) ∈ wsX12_mixes := rl_wsX12_mixes_r1 _ (List.mem_of_getElem? (i := 6) rfl)
theorem mw_X12_mixes__8 : (.methodLink RX12 377 yX12_laySwaps : Cond) ∈ wsX12_mixes := rl_wsX12_mixes_r1 _ (List.mem_of_getElem? (i := 7) rfl)
theorem mw_X12_mixes__9 : (.instanceMethod yX12_laySwaps : Cond) ∈ wsX12_mixes := rl_wsX12_mixes_r1 _ (List.mem_of_getElem? (i := 8) rfl)
theorem mw_X12_mixes__10 : (.selects RX12 yX12_laySwaps yX12_laySwaps : Cond) ∈ wsX12_mixes := rl_wsX12_mixes_r1 _ (List.mem_of_getElem? (i := 9) rfl)
theorem mw_X12_mixes__11 : (.initialized RX12 : Cond) ∈ wsX12_mixes := rl_wsX12_mixes_r1 _ (List.mem_of_getElem? (i := 10) rfl)
theorem mw_X12_mixes__12 : (.code yX12_laySwaps cX12_laySwaps 8 none : Cond) ∈ wsX12_mixes := rl_wsX12_mixes_r1 _ (List.mem_of_getElem? (i := 11) rfl)
theorem mw_X12_mixes__13 : (.fieldLink RX12 114 "BallPotsModel" "step" "[I" : Cond) ∈ wsX12_mixes := rl_wsX12_mixes_r1 _ (List.mem_of_getElem? (i := 12) rfl)
theorem mw_X12_mixes__14 : (.fieldLink RX12 245 "BallPotsModel" "ranks" "I" : Cond) ∈ wsX12_mixes := rl_wsX12_mixes_r1 _ (List.mem_of_getElem? (i := 13) rfl)
theorem mw_X12_mixes__15 : (.fieldLink RX12 44 "BallPotsModel" "row" "[I" : Cond) ∈ wsX12_mixes := rl_wsX12_mixes_r1 _ (List.mem_of_getElem? (i := 14) rfl)
theorem mw_X12_mixes__16 : (.fieldLink RX12 93 "BallPotsModel" "power" "[I" : Cond) ∈ wsX12_mixes := rl_wsX12_mixes_r1 _ (List.mem_of_getElem? (i := 15) rfl)
theorem mw_X12_mixes__17 : (.fieldLink RX12 117 "BallPotsModel" "turned" "[I" : Cond) ∈ wsX12_mixes := rl_wsX12_mixes_r1 _ (List.mem_of_getElem? (i := 16) rfl)
theorem mw_X12_mixes__18 : (.methodLink RX12 304 yX12_turnsAs : Cond) ∈ wsX12_mixes := rl_wsX12_mixes_r1 _ (List.mem_of_getElem? (i := 17) rfl)
theorem mw_X12_mixes__19 : (.instanceMethod yX12_turnsAs : Cond) ∈ wsX12_mixes := rl_wsX12_mixes_r1 _ (List.mem_of_getElem? (i := 18) rfl)
theorem mw_X12_mixes__20 : (.selects RX12 yX12_turnsAs yX12_turnsAs : Cond) ∈ wsX12_mixes := rl_wsX12_mixes_r1 _ (List.mem_of_getElem? (i := 19) rfl)
theorem mw_X12_mixes__21 : (.code yX12_turnsAs cX12_turnsAs 2 none : Cond) ∈ wsX12_mixes := rl_wsX12_mixes_r1 _ (List.mem_of_getElem? (i := 20) rfl)
theorem mw_X12_mixes__22 : (.fieldLink RX12 71 "BallPotsModel" "turn" "[I" : Cond) ∈ wsX12_mixes := rl_wsX12_mixes_r1 _ (List.mem_of_getElem? (i := 21) rfl)
theorem mw_X12_mixes__23 : (.fieldLink RX12 59 "BallPotsModel" "order" "[I" : Cond) ∈ wsX12_mixes := rl_wsX12_mixes_r1 _ (List.mem_of_getElem? (i := 22) rfl)
theorem mw_X12_mixes__24 : (.fieldLink RX12 74 "BallPotsModel" "look" "[I" : Cond) ∈ wsX12_mixes := rl_wsX12_mixes_r1 _ (List.mem_of_getElem? (i := 23) rfl)
theorem mw_X12_mixes__25 : (.fieldLink RX12 62 "BallPotsModel" "arranged" "[I" : Cond) ∈ wsX12_mixes := rl_wsX12_mixes_r2 _ (List.mem_of_getElem? (i := 0) rfl)
theorem mw_X12_mixes__26 : (.methodLink RX12 311 yX12_layMasks : Cond) ∈ wsX12_mixes := rl_wsX12_mixes_r2 _ (List.mem_of_getElem? (i := 1) rfl)
theorem mw_X12_mixes__27 : (.instanceMethod yX12_layMasks : Cond) ∈ wsX12_mixes := rl_wsX12_mixes_r2 _ (List.mem_of_getElem? (i := 2) rfl)
theorem mw_X12_mixes__28 : (.selects RX12 yX12_layMasks yX12_layMasks : Cond) ∈ wsX12_mixes := rl_wsX12_mixes_r2 _ (List.mem_of_getElem? (i := 3) rfl)
theorem mw_X12_mixes__29 : (.code yX12_layMasks cX12_layMasks 6 none : Cond) ∈ wsX12_mixes := rl_wsX12_mixes_r2 _ (List.mem_of_getElem? (i := 4) rfl)
theorem mw_X12_mixes__30 : (.fieldLink RX12 77 "BallPotsModel" "level" "[I" : Cond) ∈ wsX12_mixes := rl_wsX12_mixes_r2 _ (List.mem_of_getElem? (i := 5) rfl)
theorem mw_X12_mixes__31 : (.fieldLink RX12 80 "BallPotsModel" "mask" "[I" : Cond) ∈ wsX12_mixes := rl_wsX12_mixes_r2 _ (List.mem_of_getElem? (i := 6) rfl)
theorem mw_X12_mixes__32 : (.fieldLink RX12 87 "BallPotsModel" "indexOf" "[I" : Cond) ∈ wsX12_mixes := rl_wsX12_mixes_r2 _ (List.mem_of_getElem? (i := 7) rfl)
theorem mw_X12_mixes__33 : (.fieldLink RX12 90 "BallPotsModel" "having" "[I" : Cond) ∈ wsX12_mixes := rl_wsX12_mixes_r2 _ (List.mem_of_getElem? (i := 8) rfl)
theorem mw_X12_mixes__34 : (.fieldLink RX12 288 "BallPotsModel" "parts" "I" : Cond) ∈ wsX12_mixes := rl_wsX12_mixes_r2 _ (List.mem_of_getElem? (i := 9) rfl)
theorem mw_X12_mixes__35 : (.methodLink RX12 254 yX12_rankIn : Cond) ∈ wsX12_mixes := rl_wsX12_mixes_r2 _ (List.mem_of_getElem? (i := 10) rfl)
theorem mw_X12_mixes__36 : (.instanceMethod yX12_rankIn : Cond) ∈ wsX12_mixes := rl_wsX12_mixes_r2 _ (List.mem_of_getElem? (i := 11) rfl)
theorem mw_X12_mixes__37 : (.selects RX12 yX12_rankIn yX12_rankIn : Cond) ∈ wsX12_mixes := rl_wsX12_mixes_r2 _ (List.mem_of_getElem? (i := 12) rfl)
theorem mw_X12_mixes__38 : (.code yX12_rankIn cX12_rankIn 5 (some .int) : Cond) ∈ wsX12_mixes := rl_wsX12_mixes_r2 _ (List.mem_of_getElem? (i := 13) rfl)
theorem mw_X12_mixes__39 : (.methodLink RX12 317 yX12_rankOf : Cond) ∈ wsX12_mixes := rl_wsX12_mixes_r2 _ (List.mem_of_getElem? (i := 14) rfl)
theorem mw_X12_mixes__40 : (.instanceMethod yX12_rankOf : Cond) ∈ wsX12_mixes := rl_wsX12_mixes_r2 _ (List.mem_of_getElem? (i := 15) rfl)
theorem mw_X12_mixes__41 : (.selects RX12 yX12_rankOf yX12_rankOf : Cond) ∈ wsX12_mixes := rl_wsX12_mixes_r2 _ (List.mem_of_getElem? (i := 16) rfl)
theorem mw_X12_mixes__42 : (.code yX12_rankOf cX12_rankOf 4 (some .int) : Cond) ∈ wsX12_mixes := rl_wsX12_mixes_r2 _ (List.mem_of_getElem? (i := 17) rfl)
theorem mw_X12_mixes__43 : (.methodLink RX12 294 yX12_agreeing : Cond) ∈ wsX12_mixes := rl_wsX12_mixes_r2 _ (List.mem_of_getElem? (i := 18) rfl)
theorem mw_X12_mixes__44 : (.instanceMethod yX12_agreeing : Cond) ∈ wsX12_mixes := rl_wsX12_mixes_r2 _ (List.mem_of_getElem? (i := 19) rfl)
theorem mw_X12_mixes__45 : (.selects RX12 yX12_agreeing yX12_agreeing : Cond) ∈ wsX12_mixes := rl_wsX12_mixes_r2 _ (List.mem_of_getElem? (i := 20) rfl)
theorem mw_X12_mixes__46 : (.code yX12_agreeing cX12_agreeing 5 (some .int) : Cond) ∈ wsX12_mixes := rl_wsX12_mixes_r2 _ (List.mem_of_getElem? (i := 21) rfl)
theorem mw_X12_mixes__47 : (.methodLink RX12 291 yX12_digit : Cond) ∈ wsX12_mixes := rl_wsX12_mixes_r2 _ (List.mem_of_getElem? (i := 22) rfl)
theorem mw_X12_mixes__48 : (.instanceMethod yX12_digit : Cond) ∈ wsX12_mixes := rl_wsX12_mixes_r2 _ (List.mem_of_getElem? (i := 23) rfl)
theorem mw_X12_mixes__49 : (.selects RX12 yX12_digit yX12_digit : Cond) ∈ wsX12_mixes := rl_wsX12_mixes_r3 _ (List.mem_of_getElem? (i := 0) rfl)
theorem mw_X12_mixes__50 : (.code yX12_digit cX12_digit 3 (some .int) : Cond) ∈ wsX12_mixes := rl_wsX12_mixes_r3 _ (List.mem_of_getElem? (i := 1) rfl)
theorem mw_X12_mixes__51 : (.methodLink RX12 390 yX12_mixesOne : Cond) ∈ wsX12_mixes := rl_wsX12_mixes_r3 _ (List.mem_of_getElem? (i := 2) rfl)
theorem mw_X12_mixes__52 : (.instanceMethod yX12_mixesOne : Cond) ∈ wsX12_mixes := rl_wsX12_mixes_r3 _ (List.mem_of_getElem? (i := 3) rfl)
theorem mw_X12_mixes__53 : (.selects RX12 yX12_mixesOne yX12_mixesOne : Cond) ∈ wsX12_mixes := rl_wsX12_mixes_r3 _ (List.mem_of_getElem? (i := 4) rfl)
theorem mw_X12_mixes__54 : (.code yX12_mixesOne cX12_mixesOne 6 none : Cond) ∈ wsX12_mixes := rl_wsX12_mixes_r3 _ (List.mem_of_getElem? (i := 5) rfl)
theorem mw_X12_mixes__55 : (.methodLink RX12 383 yX12_swapped : Cond) ∈ wsX12_mixes := rl_wsX12_mixes_r3 _ (List.mem_of_getElem? (i := 6) rfl)
theorem mw_X12_mixes__56 : (.instanceMethod yX12_swapped : Cond) ∈ wsX12_mixes := rl_wsX12_mixes_r3 _ (List.mem_of_getElem? (i := 7) rfl)
theorem mw_X12_mixes__57 : (.selects RX12 yX12_swapped yX12_swapped : Cond) ∈ wsX12_mixes := rl_wsX12_mixes_r3 _ (List.mem_of_getElem? (i := 8) rfl)
theorem mw_X12_mixes__58 : (.code yX12_swapped cX12_swapped 6 (some .int) : Cond) ∈ wsX12_mixes := rl_wsX12_mixes_r3 _ (List.mem_of_getElem? (i := 9) rfl)
theorem mw_X12_mixesOne__1 : (.fieldLink RX12 188 "BallPotsModel" "pots" "I" : Cond) ∈ wsX12_mixesOne := List.mem_of_getElem? (i := 1) rfl
theorem mw_X12_mixesOne__2 : (.fieldLink RX12 185 "BallPotsModel" "groups" "I" : Cond) ∈ wsX12_mixesOne := List.mem_of_getElem? (i := 2) rfl
theorem mw_X12_mixesOne__3 : (.fieldLink RX12 123 "BallPotsModel" "then" "[I" : Cond) ∈ wsX12_mixesOne := List.mem_of_getElem? (i := 3) rfl
theorem mw_X12_mixesOne__4 : (.fieldLink RX12 47 "BallPotsModel" "breaks" "[I" : Cond) ∈ wsX12_mixesOne := List.mem_of_getElem? (i := 4) rfl
theorem mw_X12_mixesOne__5 : (.fieldLink RX12 120 "BallPotsModel" "rows" "[I" : Cond) ∈ wsX12_mixesOne := List.mem_of_getElem? (i := 5) rfl
theorem mw_X12_mixesOne__6 : (.methodLink RX12 383 yX12_swapped : Cond) ∈ wsX12_mixesOne := List.mem_of_getElem? (i := 6) rfl
theorem mw_X12_mixesOne__7 : (.instanceMethod yX12_swapped : Cond) ∈ wsX12_mixesOne := List.mem_of_getElem? (i := 7) rfl
theorem mw_X12_mixesOne__8 : (.selects RX12 yX12_swapped yX12_swapped : Cond) ∈ wsX12_mixesOne := List.mem_of_getElem? (i := 8) rfl
theorem mw_X12_mixesOne__9 : (.initialized RX12 : Cond) ∈ wsX12_mixesOne := List.mem_of_getElem? (i := 9) rfl
theorem mw_X12_mixesOne__10 : (.code yX12_swapped cX12_swapped 6 (some .int) : Cond) ∈ wsX12_mixesOne := List.mem_of_getElem? (i := 10) rfl
theorem mw_X12_mixesOne__11 : (.fieldLink RX12 114 "BallPotsModel" "step" "[I" : Cond) ∈ wsX12_mixesOne := List.mem_of_getElem? (i := 11) rfl
theorem mw_X12_mixesOne__12 : (.fieldLink RX12 245 "BallPotsModel" "ranks" "I" : Cond) ∈ wsX12_mixesOne := List.mem_of_getElem? (i := 12) rfl
theorem mw_X12_mixesOne__13 : (.fieldLink RX12 117 "BallPotsModel" "turned" "[I" : Cond) ∈ wsX12_mixesOne := List.mem_of_getElem? (i := 13) rfl
theorem mw_X12_moves__1 : (.fieldLink RX12 132 "BallPotsModel" "thrown" "I" : Cond) ∈ wsX12_moves := List.mem_of_getElem? (i := 1) rfl
theorem mw_X12_moves__2 : (.fieldLink RX12 225 "BallPotsModel" "bars" "I" : Cond) ∈ wsX12_moves := List.mem_of_getElem? (i := 2) rfl
theorem mw_X12_moves__3 : (.constantLong RX12 360 (-9223372036854775808) : Cond) ∈ wsX12_moves := List.mem_of_getElem? (i := 3) rfl
theorem mw_X12_moves__4 : (.fieldLink RX12 248 "BallPotsModel" "draws" "I" : Cond) ∈ wsX12_moves := List.mem_of_getElem? (i := 4) rfl
theorem mw_X12_moves__5 : (.fieldLink RX12 51 "BallPotsModel" "groupOf" "[B" : Cond) ∈ wsX12_moves := List.mem_of_getElem? (i := 5) rfl
theorem mw_X12_moves__6 : (.fieldLink RX12 47 "BallPotsModel" "breaks" "[I" : Cond) ∈ wsX12_moves := List.mem_of_getElem? (i := 6) rfl
theorem mw_X12_moves__7 : (.fieldLink RX12 251 "BallPotsModel" "lawful" "I" : Cond) ∈ wsX12_moves := List.mem_of_getElem? (i := 7) rfl
theorem mw_X12_moves__8 : (.methodLink RX12 269 yX12_isTeam : Cond) ∈ wsX12_moves := List.mem_of_getElem? (i := 8) rfl
theorem mw_X12_moves__9 : (.instanceMethod yX12_isTeam : Cond) ∈ wsX12_moves := List.mem_of_getElem? (i := 9) rfl
theorem mw_X12_moves__10 : (.selects RX12 yX12_isTeam yX12_isTeam : Cond) ∈ wsX12_moves := List.mem_of_getElem? (i := 10) rfl
theorem mw_X12_moves__11 : (.initialized RX12 : Cond) ∈ wsX12_moves := List.mem_of_getElem? (i := 11) rfl
theorem mw_X12_moves__12 : (.code yX12_isTeam cX12_isTeam 2 (some .boolean) : Cond) ∈ wsX12_moves := List.mem_of_getElem? (i := 12) rfl
theorem mw_X12_moves__13 : (.methodLink RX12 241 yX12_teams : Cond) ∈ wsX12_moves := List.mem_of_getElem? (i := 13) rfl
theorem mw_X12_moves__14 : (.instanceMethod yX12_teams : Cond) ∈ wsX12_moves := List.mem_of_getElem? (i := 14) rfl
theorem mw_X12_moves__15 : (.selects RX12 yX12_teams yX12_teams : Cond) ∈ wsX12_moves := List.mem_of_getElem? (i := 15) rfl
theorem mw_X12_moves__16 : (.code yX12_teams cX12_teams 1 (some .int) : Cond) ∈ wsX12_moves := List.mem_of_getElem? (i := 16) rfl
theorem mw_X12_moves__17 : (.fieldLink RX12 185 "BallPotsModel" "groups" "I" : Cond) ∈ wsX12_moves := List.mem_of_getElem? (i := 17) rfl
theorem mw_X12_moves__18 : (.fieldLink RX12 188 "BallPotsModel" "pots" "I" : Cond) ∈ wsX12_moves := List.mem_of_getElem? (i := 18) rfl
theorem mw_X12_moves__19 : (.methodLink RX12 260 yX12_lawfulBut : Cond) ∈ wsX12_moves := List.mem_of_getElem? (i := 19) rfl
theorem mw_X12_moves__20 : (.instanceMethod yX12_lawfulBut : Cond) ∈ wsX12_moves := List.mem_of_getElem? (i := 20) rfl
theorem mw_X12_moves__21 : (.selects RX12 yX12_lawfulBut yX12_lawfulBut : Cond) ∈ wsX12_moves := List.mem_of_getElem? (i := 21) rfl
theorem mw_X12_moves__22 : (.code yX12_lawfulBut cX12_lawfulBut 4 (some .int) : Cond) ∈ wsX12_moves := List.mem_of_getElem? (i := 22) rfl
theorem mw_X12_named__1 : (.fieldLink RX12 132 "BallPotsModel" "thrown" "I" : Cond) ∈ wsX12_named := List.mem_of_getElem? (i := 1) rfl
theorem mw_X12_named__2 : (.fieldLink RX12 222 "BallPotsModel" "marks" "I" : Cond) ∈ wsX12_named := List.mem_of_getElem? (i := 2) rfl
theorem mw_X12_named__3 : (.fieldLink RX12 20 "BallPotsModel" "team" "[I" : Cond) ∈ wsX12_named := List.mem_of_getElem? (i := 3) rfl
theorem mw_X12_named__4 : (.fieldLink RX12 23 "BallPotsModel" "markName" "[I" : Cond) ∈ wsX12_named := List.mem_of_getElem? (i := 4) rfl
theorem mw_X12_named__5 : (.methodLink RX12 237 yX12_isIn : Cond) ∈ wsX12_named := List.mem_of_getElem? (i := 5) rfl
theorem mw_X12_named__6 : (.static yX12_isIn : Cond) ∈ wsX12_named := List.mem_of_getElem? (i := 6) rfl
theorem mw_X12_named__7 : (.initialized RX12 : Cond) ∈ wsX12_named := List.mem_of_getElem? (i := 7) rfl
theorem mw_X12_named__8 : (.code yX12_isIn cX12_isIn 3 (some .boolean) : Cond) ∈ wsX12_named := List.mem_of_getElem? (i := 8) rfl
theorem mw_X12_named__9 : (.methodLink RX12 241 yX12_teams : Cond) ∈ wsX12_named := List.mem_of_getElem? (i := 9) rfl
theorem mw_X12_named__10 : (.instanceMethod yX12_teams : Cond) ∈ wsX12_named := List.mem_of_getElem? (i := 10) rfl
theorem mw_X12_named__11 : (.selects RX12 yX12_teams yX12_teams : Cond) ∈ wsX12_named := List.mem_of_getElem? (i := 11) rfl
theorem mw_X12_named__12 : (.code yX12_teams cX12_teams 1 (some .int) : Cond) ∈ wsX12_named := List.mem_of_getElem? (i := 12) rfl
theorem mw_X12_named__13 : (.fieldLink RX12 185 "BallPotsModel" "groups" "I" : Cond) ∈ wsX12_named := List.mem_of_getElem? (i := 13) rfl
theorem mw_X12_named__14 : (.fieldLink RX12 188 "BallPotsModel" "pots" "I" : Cond) ∈ wsX12_named := List.mem_of_getElem? (i := 14) rfl
theorem mw_X12_nearest__1 : (.fieldLink RX12 132 "BallPotsModel" "thrown" "I" : Cond) ∈ wsX12_nearest := rl_wsX12_nearest_r1 _ (List.mem_of_getElem? (i := 0) rfl)
theorem mw_X12_nearest__2 : (.fieldLink RX12 251 "BallPotsModel" "lawful" "I" : Cond) ∈ wsX12_nearest := rl_wsX12_nearest_r1 _ (List.mem_of_getElem? (i := 1) rfl)
theorem mw_X12_nearest__3 : (.fieldLink RX12 188 "BallPotsModel" "pots" "I" : Cond) ∈ wsX12_nearest := rl_wsX12_nearest_r1 _ (List.mem_of_getElem? (i := 2) rfl)
theorem mw_X12_nearest__4 : (.fieldLink RX12 185 "BallPotsModel" "groups" "I" : Cond) ∈ wsX12_nearest := rl_wsX12_nearest_r1 _ (List.mem_of_getElem? (i := 3) rfl)
theorem mw_X12_nearest__5 : (.fieldLink RX12 71 "BallPotsModel" "turn" "[I" : Cond) ∈ wsX12_nearest := rl_wsX12_nearest_r1 _ (List.mem_of_getElem? (i := 4) rfl)
theorem mw_X12_nearest__6 : (.fieldLink RX12 74 "BallPotsModel" "look" "[I" : Cond) ∈ wsX12_nearest := rl_wsX12_nearest_r1 _ (List.mem_of_getElem? (i := 5) rfl)
theorem mw_X12_nearest__7 : (.fieldLink RX12 345 "BallPotsModel" "apart" "J" : Cond) ∈ wsX12_nearest := rl_wsX12_nearest_r1 _ (List.mem_of_getElem? (i := 6) rfl)
theorem mw_X12_nearest__8 : (.methodLink RX12 237 yX12_isIn : Cond) ∈ wsX12_nearest := rl_wsX12_nearest_r1 _ (List.mem_of_getElem? (i := 7) rfl)
theorem mw_X12_nearest__9 : (.static yX12_isIn : Cond) ∈ wsX12_nearest := rl_wsX12_nearest_r1 _ (List.mem_of_getElem? (i := 8) rfl)
theorem mw_X12_nearest__10 : (.initialized RX12 : Cond) ∈ wsX12_nearest := rl_wsX12_nearest_r1 _ (List.mem_of_getElem? (i := 9) rfl)
theorem mw_X12_nearest__11 : (.code yX12_isIn cX12_isIn 3 (some .boolean) : Cond) ∈ wsX12_nearest := rl_wsX12_nearest_r1 _ (List.mem_of_getElem? (i := 10) rfl)
theorem mw_X12_nearest__12 : (.methodLink RX12 304 yX12_turnsAs : Cond) ∈ wsX12_nearest := rl_wsX12_nearest_r1 _ (List.mem_of_getElem? (i := 11) rfl)
theorem mw_X12_nearest__13 : (.instanceMethod yX12_turnsAs : Cond) ∈ wsX12_nearest := rl_wsX12_nearest_r1 _ (List.mem_of_getElem? (i := 12) rfl)
theorem mw_X12_nearest__14 : (.selects RX12 yX12_turnsAs yX12_turnsAs : Cond) ∈ wsX12_nearest := rl_wsX12_nearest_r1 _ (List.mem_of_getElem? (i := 13) rfl)
theorem mw_X12_nearest__15 : (.code yX12_turnsAs cX12_turnsAs 2 none : Cond) ∈ wsX12_nearest := rl_wsX12_nearest_r1 _ (List.mem_of_getElem? (i := 14) rfl)
theorem mw_X12_nearest__16 : (.fieldLink RX12 59 "BallPotsModel" "order" "[I" : Cond) ∈ wsX12_nearest := rl_wsX12_nearest_r1 _ (List.mem_of_getElem? (i := 15) rfl)
theorem mw_X12_nearest__17 : (.fieldLink RX12 62 "BallPotsModel" "arranged" "[I" : Cond) ∈ wsX12_nearest := rl_wsX12_nearest_r1 _ (List.mem_of_getElem? (i := 16) rfl)
theorem mw_X12_nearest__18 : (.methodLink RX12 272 yX12_isOnce : Cond) ∈ wsX12_nearest := rl_wsX12_nearest_r1 _ (List.mem_of_getElem? (i := 17) rfl)
theorem mw_X12_nearest__19 : (.static yX12_isOnce : Cond) ∈ wsX12_nearest := rl_wsX12_nearest_r1 _ (List.mem_of_getElem? (i := 18) rfl)
theorem mw_X12_nearest__20 : (.code yX12_isOnce cX12_isOnce 4 (some .boolean) : Cond) ∈ wsX12_nearest := rl_wsX12_nearest_r1 _ (List.mem_of_getElem? (i := 19) rfl)
theorem mw_X12_nearest__21 : (.methodLink RX12 362 yX12_layApart : Cond) ∈ wsX12_nearest := rl_wsX12_nearest_r1 _ (List.mem_of_getElem? (i := 20) rfl)
theorem mw_X12_nearest__22 : (.instanceMethod yX12_layApart : Cond) ∈ wsX12_nearest := rl_wsX12_nearest_r1 _ (List.mem_of_getElem? (i := 21) rfl)
theorem mw_X12_nearest__23 : (.selects RX12 yX12_layApart yX12_layApart : Cond) ∈ wsX12_nearest := rl_wsX12_nearest_r1 _ (List.mem_of_getElem? (i := 22) rfl)
theorem mw_X12_nearest__24 : (.code yX12_layApart cX12_layApart 13 none : Cond) ∈ wsX12_nearest := rl_wsX12_nearest_r1 _ (List.mem_of_getElem? (i := 23) rfl)
theorem mw_X12_nearest__25 : (.fieldLink RX12 105 "BallPotsModel" "pairs" "[J" : Cond) ∈ wsX12_nearest := rl_wsX12_nearest_r2 _ (List.mem_of_getElem? (i := 0) rfl)
theorem mw_X12_nearest__26 : (.fieldLink RX12 341 "BallPotsModel" "beneath" "J" : Cond) ∈ wsX12_nearest := rl_wsX12_nearest_r2 _ (List.mem_of_getElem? (i := 1) rfl)
theorem mw_X12_nearest__27 : (.fieldLink RX12 348 "BallPotsModel" "sum" "J" : Cond) ∈ wsX12_nearest := rl_wsX12_nearest_r2 _ (List.mem_of_getElem? (i := 2) rfl)
theorem mw_X12_nearest__28 : (.fieldLink RX12 351 "BallPotsModel" "farOne" "I" : Cond) ∈ wsX12_nearest := rl_wsX12_nearest_r2 _ (List.mem_of_getElem? (i := 3) rfl)
theorem mw_X12_nearest__29 : (.fieldLink RX12 354 "BallPotsModel" "farOther" "I" : Cond) ∈ wsX12_nearest := rl_wsX12_nearest_r2 _ (List.mem_of_getElem? (i := 4) rfl)
theorem mw_X12_nearest__30 : (.fieldLink RX12 357 "BallPotsModel" "far" "J" : Cond) ∈ wsX12_nearest := rl_wsX12_nearest_r2 _ (List.mem_of_getElem? (i := 5) rfl)
theorem mw_X12_nearest__31 : (.methodLink RX12 307 yX12_layWeights : Cond) ∈ wsX12_nearest := rl_wsX12_nearest_r2 _ (List.mem_of_getElem? (i := 6) rfl)
theorem mw_X12_nearest__32 : (.instanceMethod yX12_layWeights : Cond) ∈ wsX12_nearest := rl_wsX12_nearest_r2 _ (List.mem_of_getElem? (i := 7) rfl)
theorem mw_X12_nearest__33 : (.selects RX12 yX12_layWeights yX12_layWeights : Cond) ∈ wsX12_nearest := rl_wsX12_nearest_r2 _ (List.mem_of_getElem? (i := 8) rfl)
theorem mw_X12_nearest__34 : (.code yX12_layWeights cX12_layWeights 10 none : Cond) ∈ wsX12_nearest := rl_wsX12_nearest_r2 _ (List.mem_of_getElem? (i := 9) rfl)
theorem mw_X12_nearest__35 : (.fieldLink RX12 102 "BallPotsModel" "laid" "I" : Cond) ∈ wsX12_nearest := rl_wsX12_nearest_r2 _ (List.mem_of_getElem? (i := 10) rfl)
theorem mw_X12_nearest__36 : (.fieldLink RX12 234 "BallPotsModel" "out" "I" : Cond) ∈ wsX12_nearest := rl_wsX12_nearest_r2 _ (List.mem_of_getElem? (i := 11) rfl)
theorem mw_X12_nearest__37 : (.fieldLink RX12 248 "BallPotsModel" "draws" "I" : Cond) ∈ wsX12_nearest := rl_wsX12_nearest_r2 _ (List.mem_of_getElem? (i := 12) rfl)
theorem mw_X12_nearest__38 : (.fieldLink RX12 99 "BallPotsModel" "weight" "[J" : Cond) ∈ wsX12_nearest := rl_wsX12_nearest_r2 _ (List.mem_of_getElem? (i := 13) rfl)
theorem mw_X12_nearest__39 : (.fieldLink RX12 47 "BallPotsModel" "breaks" "[I" : Cond) ∈ wsX12_nearest := rl_wsX12_nearest_r2 _ (List.mem_of_getElem? (i := 14) rfl)
theorem mw_X12_nearest__40 : (.fieldLink RX12 77 "BallPotsModel" "level" "[I" : Cond) ∈ wsX12_nearest := rl_wsX12_nearest_r2 _ (List.mem_of_getElem? (i := 15) rfl)
theorem mw_X12_nearest__41 : (.fieldLink RX12 83 "BallPotsModel" "ways" "[J" : Cond) ∈ wsX12_nearest := rl_wsX12_nearest_r2 _ (List.mem_of_getElem? (i := 16) rfl)
theorem mw_X12_nearest__42 : (.fieldLink RX12 245 "BallPotsModel" "ranks" "I" : Cond) ∈ wsX12_nearest := rl_wsX12_nearest_r2 _ (List.mem_of_getElem? (i := 17) rfl)
theorem mw_X12_nearest__43 : (.fieldLink RX12 288 "BallPotsModel" "parts" "I" : Cond) ∈ wsX12_nearest := rl_wsX12_nearest_r2 _ (List.mem_of_getElem? (i := 18) rfl)
theorem mw_X12_nearest__44 : (.fieldLink RX12 87 "BallPotsModel" "indexOf" "[I" : Cond) ∈ wsX12_nearest := rl_wsX12_nearest_r2 _ (List.mem_of_getElem? (i := 19) rfl)
theorem mw_X12_nearest__45 : (.methodLink RX12 311 yX12_layMasks : Cond) ∈ wsX12_nearest := rl_wsX12_nearest_r2 _ (List.mem_of_getElem? (i := 20) rfl)
theorem mw_X12_nearest__46 : (.instanceMethod yX12_layMasks : Cond) ∈ wsX12_nearest := rl_wsX12_nearest_r2 _ (List.mem_of_getElem? (i := 21) rfl)
theorem mw_X12_nearest__47 : (.selects RX12 yX12_layMasks yX12_layMasks : Cond) ∈ wsX12_nearest := rl_wsX12_nearest_r2 _ (List.mem_of_getElem? (i := 22) rfl)
theorem mw_X12_nearest__48 : (.code yX12_layMasks cX12_layMasks 6 none : Cond) ∈ wsX12_nearest := rl_wsX12_nearest_r2 _ (List.mem_of_getElem? (i := 23) rfl)
theorem mw_X12_nearest__49 : (.fieldLink RX12 80 "BallPotsModel" "mask" "[I" : Cond) ∈ wsX12_nearest := rl_wsX12_nearest_r3 _ (List.mem_of_getElem? (i := 0) rfl)
theorem mw_X12_nearest__50 : (.fieldLink RX12 90 "BallPotsModel" "having" "[I" : Cond) ∈ wsX12_nearest := rl_wsX12_nearest_r3 _ (List.mem_of_getElem? (i := 1) rfl)
theorem mw_X12_nearest__51 : (.fieldLink RX12 44 "BallPotsModel" "row" "[I" : Cond) ∈ wsX12_nearest := rl_wsX12_nearest_r3 _ (List.mem_of_getElem? (i := 2) rfl)
theorem mw_X12_nearest__52 : (.fieldLink RX12 93 "BallPotsModel" "power" "[I" : Cond) ∈ wsX12_nearest := rl_wsX12_nearest_r3 _ (List.mem_of_getElem? (i := 3) rfl)
theorem mw_X12_nearest__53 : (.methodLink RX12 254 yX12_rankIn : Cond) ∈ wsX12_nearest := rl_wsX12_nearest_r3 _ (List.mem_of_getElem? (i := 4) rfl)
theorem mw_X12_nearest__54 : (.instanceMethod yX12_rankIn : Cond) ∈ wsX12_nearest := rl_wsX12_nearest_r3 _ (List.mem_of_getElem? (i := 5) rfl)
theorem mw_X12_nearest__55 : (.selects RX12 yX12_rankIn yX12_rankIn : Cond) ∈ wsX12_nearest := rl_wsX12_nearest_r3 _ (List.mem_of_getElem? (i := 6) rfl)
theorem mw_X12_nearest__56 : (.code yX12_rankIn cX12_rankIn 5 (some .int) : Cond) ∈ wsX12_nearest := rl_wsX12_nearest_r3 _ (List.mem_of_getElem? (i := 7) rfl)
theorem mw_X12_nearest__57 : (.methodLink RX12 275 yX12_isAsPlaced : Cond) ∈ wsX12_nearest := rl_wsX12_nearest_r3 _ (List.mem_of_getElem? (i := 8) rfl)
theorem mw_X12_nearest__58 : (.instanceMethod yX12_isAsPlaced : Cond) ∈ wsX12_nearest := rl_wsX12_nearest_r3 _ (List.mem_of_getElem? (i := 9) rfl)
theorem mw_X12_nearest__59 : (.selects RX12 yX12_isAsPlaced yX12_isAsPlaced : Cond) ∈ wsX12_nearest := rl_wsX12_nearest_r3 _ (List.mem_of_getElem? (i := 10) rfl)
theorem mw_X12_nearest__60 : (.code yX12_isAsPlaced cX12_isAsPlaced 4 (some .boolean) : Cond) ∈ wsX12_nearest := rl_wsX12_nearest_r3 _ (List.mem_of_getElem? (i := 11) rfl)
theorem mw_X12_nearest__61 : (.fieldLink RX12 51 "BallPotsModel" "groupOf" "[B" : Cond) ∈ wsX12_nearest := rl_wsX12_nearest_r3 _ (List.mem_of_getElem? (i := 12) rfl)
theorem mw_X12_nearest__62 : (.fieldLink RX12 65 "BallPotsModel" "ballOf" "[I" : Cond) ∈ wsX12_nearest := rl_wsX12_nearest_r3 _ (List.mem_of_getElem? (i := 13) rfl)
