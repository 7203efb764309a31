theorem goodIn_app {big a b : List Cond} (ha : GoodIn big a) (hb : GoodIn big b) : GoodIn big (a ++ b) := fun w h => (List.mem_append.mp h).elim (ha w) (hb w)
theorem goodIn_sub {big ws : List Cond} (hm : ∀ w ∈ ws, w ∈ big) (h : ws.all goodWord = true) : GoodIn big ws := fun w hw => ⟨hm w hw, good_of_word (List.all_eq_true.mp h w hw)⟩
def RX0 : String := "BallPots$BarTable"
def TX0 : u_T := fun k => match k with
  | 0 => ("BallPots$BarTable", "draws", "LBallPots$Draws;", true)
  | 1 => ("BallPots$BarTable", "plan", "LBallPots$Plan;", true)
  | 2 => ("BallPots$BarTable", "ranks", "LBallPots$Ranks;", true)
  | 3 => ("BallPots$BarTable", "pairs", "[I", false)
  | _ => ("BallPots$BarTable", "fresh", "Z", false)
def RX1 : String := "BallPots$Chances"
def TX1 : u_T := fun k => match k with
  | 0 => ("BallPots$Chances", "pairs", "[J", true)
  | 1 => ("BallPots$Chances", "places", "[J", true)
  | 2 => ("BallPots$Chances", "rows", "J", false)
  | _ => ("BallPots$Chances", "fresh", "Z", false)
def RX2 : String := "BallPots$Draws"
def TX2 : u_T := fun k => match k with
  | 0 => ("BallPots$Draws", "plan", "LBallPots$Plan;", true)
  | 1 => ("BallPots$Draws", "ranks", "LBallPots$Ranks;", true)
  | 2 => ("BallPots$Draws", "total", "I", false)
  | 3 => ("BallPots$Draws", "lawfulOnes", "I", false)
  | 4 => ("BallPots$Draws", "step", "[I", true)
  | 5 => ("BallPots$Draws", "broken", "[I", false)
  | 6 => ("BallPots$Draws", "lawfulCodes", "[I", false)
  | 7 => ("BallPots$Draws", "within", "[I", true)
  | 8 => ("BallPots$Draws", "withinSome", "[I", true)
  | _ => ("BallPots$Draws", "held", "[I", true)
def RX3 : String := "BallPots$Plan"
def TX3 : u_T := fun k => match k with
  | 0 => ("BallPots$Plan", "groups", "I", false)
  | 1 => ("BallPots$Plan", "pots", "I", false)
  | 2 => ("BallPots$Plan", "teams", "I", false)
  | 3 => ("BallPots$Plan", "marks", "I", false)
  | 4 => ("BallPots$Plan", "bars", "I", false)
  | 5 => ("BallPots$Plan", "teamNames", "[I", true)
  | 6 => ("BallPots$Plan", "marksOf", "[I", true)
  | 7 => ("BallPots$Plan", "markNames", "[I", true)
  | 8 => ("BallPots$Plan", "barTeams", "[I", true)
  | 9 => ("BallPots$Plan", "barRooms", "[I", true)
  | _ => ("BallPots$Plan", "groupsNamed", "I", false)
def RX4 : String := "BallPots$Ranks"
def TX4 : u_T := fun k => match k with
  | 0 => ("BallPots$Ranks", "groups", "I", false)
  | 1 => ("BallPots$Ranks", "many", "I", false)
  | 2 => ("BallPots$Ranks", "everyRank", "I", false)
  | 3 => ("BallPots$Ranks", "swapsAPot", "I", false)
  | 4 => ("BallPots$Ranks", "groupOf", "[I", true)
  | 5 => ("BallPots$Ranks", "placeIn", "[I", true)
  | 6 => ("BallPots$Ranks", "having", "[I", true)
  | 7 => ("BallPots$Ranks", "swapped", "[I", true)
  | _ => ("BallPots$Ranks", "row", "[I", true)
def RX5 : String := "BallPots$Reader"
def TX5 : u_T := fun k => match k with
  | 0 => ("BallPots$Reader", "signs", "[I", true)
  | 1 => ("BallPots$Reader", "plan", "LBallPots$Plan;", true)
  | 2 => ("BallPots$Reader", "fault", "I", false)
  | 3 => ("BallPots$Reader", "place", "I", false)
  | 4 => ("BallPots$Reader", "length", "I", false)
  | 5 => ("BallPots$Reader", "at", "I", false)
  | 6 => ("BallPots$Reader", "kind", "I", false)
  | 7 => ("BallPots$Reader", "start", "I", false)
  | _ => ("BallPots$Reader", "value", "I", false)
def RX6 : String := "BallPots$Reckoner"
def TX6 : u_T := fun k => match k with
  | 0 => ("BallPots$Reckoner", "plan", "LBallPots$Plan;", true)
  | 1 => ("BallPots$Reckoner", "ranks", "LBallPots$Ranks;", true)
  | 2 => ("BallPots$Reckoner", "stage", "LBallPots$Stage;", true)
  | 3 => ("BallPots$Reckoner", "spread", "LBallPots$Spread;", true)
  | 4 => ("BallPots$Reckoner", "rankAt", "[I", true)
  | 5 => ("BallPots$Reckoner", "rowsAt", "[J", true)
  | 6 => ("BallPots$Reckoner", "firstLevel", "I", false)
  | 7 => ("BallPots$Reckoner", "firstPrefix", "I", false)
  | 8 => ("BallPots$Reckoner", "firstOpen", "I", false)
  | _ => ("BallPots$Reckoner", "firstLeft", "I", false)
def RX7 : String := "BallPots$Spread"
def TX7 : u_T := fun k => match k with
  | 0 => ("BallPots$Spread", "ranks", "LBallPots$Ranks;", true)
  | 1 => ("BallPots$Spread", "way", "I", false)
  | 2 => ("BallPots$Spread", "groupAt", "[I", true)
  | 3 => ("BallPots$Spread", "rows", "[J", true)
  | 4 => ("BallPots$Spread", "keys", "[I", true)
  | _ => ("BallPots$Spread", "tables", "[J", true)
def RX8 : String := "BallPots$Stage"
def TX8 : u_T := fun k => match k with
  | 0 => ("BallPots$Stage", "plan", "LBallPots$Plan;", true)
  | 1 => ("BallPots$Stage", "ranks", "LBallPots$Ranks;", true)
  | 2 => ("BallPots$Stage", "potAt", "[I", true)
  | 3 => ("BallPots$Stage", "groupAt", "[I", true)
  | 4 => ("BallPots$Stage", "groupOf", "[I", true)
  | 5 => ("BallPots$Stage", "balls", "[I", true)
  | 6 => ("BallPots$Stage", "out", "I", false)
  | _ => ("BallPots$Stage", "allowed", "[I", true)
def RX9 : String := "BallPots$Swaps"
def TX9 : u_T := fun k => match k with
  | 0 => ("BallPots$Swaps", "draws", "LBallPots$Draws;", true)
  | 1 => ("BallPots$Swaps", "ranks", "LBallPots$Ranks;", true)
  | 2 => ("BallPots$Swaps", "rows", "[I", false)
  | 3 => ("BallPots$Swaps", "other", "[I", false)
  | 4 => ("BallPots$Swaps", "done", "I", false)
  | 5 => ("BallPots$Swaps", "partsFresh", "Z", false)
  | 6 => ("BallPots$Swaps", "manyParts", "I", false)
  | 7 => ("BallPots$Swaps", "firstPart", "I", false)
  | 8 => ("BallPots$Swaps", "greatestPart", "I", false)
  | _ => ("BallPots$Swaps", "queued", "I", false)
def RX10 : String := "BallPots$Tree"
def TX10 : u_T := fun k => match k with
  | 0 => ("BallPots$Tree", "draws", "LBallPots$Draws;", true)
  | 1 => ("BallPots$Tree", "sets", "[I", true)
  | 2 => ("BallPots$Tree", "from", "[I", true)
  | 3 => ("BallPots$Tree", "potAt", "[I", true)
  | _ => ("BallPots$Tree", "fresh", "Z", false)
def RX11 : String := "BallPots"
def TX11 : u_T := fun k => match k with
  | 0 => ("BallPots", "tape", "[I", true)
  | 1 => ("BallPots", "taped", "I", false)
  | 2 => ("BallPots", "plan", "LBallPots$Plan;", true)
  | 3 => ("BallPots", "reader", "LBallPots$Reader;", true)
  | 4 => ("BallPots", "ranks", "LBallPots$Ranks;", true)
  | 5 => ("BallPots", "draws", "LBallPots$Draws;", true)
  | 6 => ("BallPots", "stage", "LBallPots$Stage;", true)
  | 7 => ("BallPots", "treeNow", "LBallPots$Tree;", true)
  | 8 => ("BallPots", "treeInTurn", "LBallPots$Tree;", true)
  | 9 => ("BallPots", "treeTried", "LBallPots$Tree;", true)
  | 10 => ("BallPots", "reckoner", "LBallPots$Reckoner;", true)
  | 11 => ("BallPots", "fromStart", "[LBallPots$Chances;", true)
  | 12 => ("BallPots", "fromNow", "[LBallPots$Chances;", true)
  | 13 => ("BallPots", "tried", "LBallPots$Chances;", true)
  | 14 => ("BallPots", "barTable", "LBallPots$BarTable;", true)
  | 15 => ("BallPots", "swaps", "LBallPots$Swaps;", true)
  | 16 => ("BallPots", "nearestOrder", "I", false)
  | _ => ("BallPots", "nearestArrangement", "I", false)
def RX12 : String := "BallPotsModel"
def TX12 : u_T := fun k => match k with
  | 0 => ("BallPotsModel", "tape", "[I", true)
  | 1 => ("BallPotsModel", "tapeSize", "I", false)
  | 2 => ("BallPotsModel", "thrown", "I", false)
  | 3 => ("BallPotsModel", "words", "[I", true)
  | 4 => ("BallPotsModel", "fault", "I", false)
  | 5 => ("BallPotsModel", "faultPlace", "I", false)
  | 6 => ("BallPotsModel", "stop", "I", false)
  | 7 => ("BallPotsModel", "next", "I", false)
  | 8 => ("BallPotsModel", "kind", "I", false)
  | 9 => ("BallPotsModel", "which", "I", false)
  | 10 => ("BallPotsModel", "place", "I", false)
  | 11 => ("BallPotsModel", "groups", "I", false)
  | 12 => ("BallPotsModel", "pots", "I", false)
  | 13 => ("BallPotsModel", "marks", "I", false)
  | 14 => ("BallPotsModel", "bars", "I", false)
  | 15 => ("BallPotsModel", "team", "[I", true)
  | 16 => ("BallPotsModel", "markName", "[I", true)
  | 17 => ("BallPotsModel", "marked", "[I", true)
  | 18 => ("BallPotsModel", "bar", "[I", true)
  | 19 => ("BallPotsModel", "groupsRead", "I", false)
  | 20 => ("BallPotsModel", "potsRead", "I", false)
  | 21 => ("BallPotsModel", "teamsRead", "I", false)
  | 22 => ("BallPotsModel", "marksRead", "I", false)
  | 23 => ("BallPotsModel", "barsRead", "I", false)
  | 24 => ("BallPotsModel", "teamRead", "[I", true)
  | 25 => ("BallPotsModel", "markRead", "[I", true)
  | 26 => ("BallPotsModel", "markedRead", "[I", true)
  | 27 => ("BallPotsModel", "barRead", "[I", true)
  | 28 => ("BallPotsModel", "ranks", "I", false)
  | 29 => ("BallPotsModel", "row", "[I", true)
  | 30 => ("BallPotsModel", "draws", "I", false)
  | 31 => ("BallPotsModel", "breaks", "[I", true)
  | 32 => ("BallPotsModel", "groupOf", "[B", true)
  | 33 => ("BallPotsModel", "lawful", "I", false)
  | 34 => ("BallPotsModel", "broken", "[Z", true)
  | 35 => ("BallPotsModel", "order", "[I", true)
  | 36 => ("BallPotsModel", "arranged", "[I", true)
  | 37 => ("BallPotsModel", "out", "I", false)
  | 38 => ("BallPotsModel", "ballOf", "[I", true)
  | 39 => ("BallPotsModel", "groupGot", "[I", true)
  | 40 => ("BallPotsModel", "turn", "[I", true)
  | 41 => ("BallPotsModel", "look", "[I", true)
  | 42 => ("BallPotsModel", "level", "[I", true)
  | 43 => ("BallPotsModel", "mask", "[I", true)
  | 44 => ("BallPotsModel", "ways", "[J", true)
  | 45 => ("BallPotsModel", "indexOf", "[I", true)
  | 46 => ("BallPotsModel", "having", "[I", true)
  | 47 => ("BallPotsModel", "parts", "I", false)
  | 48 => ("BallPotsModel", "power", "[I", true)
  | 49 => ("BallPotsModel", "part", "[J", true)
  | 50 => ("BallPotsModel", "weight", "[J", true)
  | 51 => ("BallPotsModel", "laid", "I", false)
  | 52 => ("BallPotsModel", "pairs", "[J", true)
  | 53 => ("BallPotsModel", "apart", "J", false)
  | 54 => ("BallPotsModel", "sum", "J", false)
  | 55 => ("BallPotsModel", "farOne", "I", false)
  | 56 => ("BallPotsModel", "farOther", "I", false)
  | 57 => ("BallPotsModel", "far", "J", false)
  | 58 => ("BallPotsModel", "beneath", "J", false)
  | 59 => ("BallPotsModel", "partOf", "[I", true)
  | 60 => ("BallPotsModel", "queue", "[I", true)
  | 61 => ("BallPotsModel", "step", "[I", true)
  | 62 => ("BallPotsModel", "turned", "[I", true)
  | 63 => ("BallPotsModel", "rows", "[I", true)
  | 64 => ("BallPotsModel", "then", "[I", true)
  | _ => ("BallPotsModel", "rowsInAll", "J", false)
def tyX12 : Nat → FieldType := fun k => match k with
  | 0 => .array .int
  | 1 => .int
  | 2 => .int
  | 3 => .array .int
  | 4 => .int
  | 5 => .int
  | 6 => .int
  | 7 => .int
  | 8 => .int
  | 9 => .int
  | 10 => .int
  | 11 => .int
  | 12 => .int
  | 13 => .int
  | 14 => .int
  | 15 => .array .int
  | 16 => .array .int
  | 17 => .array .int
  | 18 => .array .int
  | 19 => .int
  | 20 => .int
  | 21 => .int
  | 22 => .int
  | 23 => .int
  | 24 => .array .int
  | 25 => .array .int
  | 26 => .array .int
  | 27 => .array .int
  | 28 => .int
  | 29 => .array .int
  | 30 => .int
  | 31 => .array .int
  | 32 => .array .byte
  | 33 => .int
  | 34 => .array .boolean
  | 35 => .array .int
  | 36 => .array .int
  | 37 => .int
  | 38 => .array .int
  | 39 => .array .int
  | 40 => .array .int
  | 41 => .array .int
  | 42 => .array .int
  | 43 => .array .int
  | 44 => .array .long
  | 45 => .array .int
  | 46 => .array .int
  | 47 => .int
  | 48 => .array .int
  | 49 => .array .long
  | 50 => .array .long
  | 51 => .int
  | 52 => .array .long
  | 53 => .long
  | 54 => .long
  | 55 => .int
  | 56 => .int
  | 57 => .long
  | 58 => .long
  | 59 => .array .int
  | 60 => .array .int
  | 61 => .array .int
  | 62 => .array .int
  | 63 => .array .int
  | 64 => .array .int
  | _ => .long
abbrev wsX120 : List Cond := u_ws RX12 TX12 66
theorem nmX12 : ∀ a, a < 66 → ∀ b, b < 66 → a ≠ b → (TX12 a).2.1 ≠ (TX12 b).2.1 := by decide +kernel
theorem tyX12_ok : ∀ k, k < 66 → parseFieldDescriptor (TX12 k).2.2.1 = some (tyX12 k) := by decide +kernel
abbrev cX12_feed : ByteArray := prog_14_method_3_code
def yX12_feed : MethodName := ⟨RX12, "feed", "(IIIII)I"⟩
abbrev cX12_isIn : ByteArray := prog_14_method_4_code
def yX12_isIn : MethodName := ⟨RX12, "isIn", "(III)Z"⟩
abbrev cX12_wrong : ByteArray := prog_14_method_5_code
def yX12_wrong : MethodName := ⟨RX12, "wrong", "(I)Z"⟩
abbrev cX12_wordAt : ByteArray := prog_14_method_6_code
def yX12_wordAt : MethodName := ⟨RX12, "wordAt", "(II)I"⟩
abbrev cX12_isSmall : ByteArray := prog_14_method_7_code
def yX12_isSmall : MethodName := ⟨RX12, "isSmall", "(I)Z"⟩
abbrev cX12_isDigit : ByteArray := prog_14_method_8_code
def yX12_isDigit : MethodName := ⟨RX12, "isDigit", "(I)Z"⟩
abbrev cX12_take : ByteArray := prog_14_method_9_code
def yX12_take : MethodName := ⟨RX12, "take", "()V"⟩
abbrev cX12_packed : ByteArray := prog_14_method_10_code
def yX12_packed : MethodName := ⟨RX12, "packed", "(II)I"⟩
abbrev cX12_plain : ByteArray := prog_14_method_11_code
def yX12_plain : MethodName := ⟨RX12, "plain", "()V"⟩
abbrev cX12_teams : ByteArray := prog_14_method_12_code
def yX12_teams : MethodName := ⟨RX12, "teams", "()I"⟩
abbrev cX12_isNumber : ByteArray := prog_14_method_13_code
def yX12_isNumber : MethodName := ⟨RX12, "isNumber", "(II)Z"⟩
abbrev cX12_teamOf : ByteArray := prog_14_method_14_code
def yX12_teamOf : MethodName := ⟨RX12, "teamOf", "(I)I"⟩
abbrev cX12_markOf : ByteArray := prog_14_method_15_code
def yX12_markOf : MethodName := ⟨RX12, "markOf", "(I)I"⟩
abbrev cX12_potRead : ByteArray := prog_14_method_16_code
def yX12_potRead : MethodName := ⟨RX12, "potRead", "()Z"⟩
abbrev cX12_markLine : ByteArray := prog_14_method_17_code
def yX12_markLine : MethodName := ⟨RX12, "markLine", "()Z"⟩
abbrev cX12_barLine : ByteArray := prog_14_method_18_code
def yX12_barLine : MethodName := ⟨RX12, "barLine", "(I)Z"⟩
abbrev cX12_lineRead : ByteArray := prog_14_method_19_code
def yX12_lineRead : MethodName := ⟨RX12, "lineRead", "(Z)Z"⟩
abbrev cX12_text : ByteArray := prog_14_method_20_code
def yX12_text : MethodName := ⟨RX12, "text", "(I)I"⟩
abbrev cX12_keep : ByteArray := prog_14_method_21_code
def yX12_keep : MethodName := ⟨RX12, "keep", "()V"⟩
abbrev cX12_fault : ByteArray := prog_14_method_22_code
def yX12_fault : MethodName := ⟨RX12, "fault", "(I)I"⟩
abbrev cX12_named : ByteArray := prog_14_method_23_code
def yX12_named : MethodName := ⟨RX12, "named", "(II)I"⟩
abbrev cX12_layRows : ByteArray := prog_14_method_24_code
def yX12_layRows : MethodName := ⟨RX12, "layRows", "()V"⟩
abbrev cX12_rankIn : ByteArray := prog_14_method_25_code
def yX12_rankIn : MethodName := ⟨RX12, "rankIn", "(II)I"⟩
abbrev cX12_layDraws : ByteArray := prog_14_method_26_code
def yX12_layDraws : MethodName := ⟨RX12, "layDraws", "()V"⟩
abbrev cX12_isBroken : ByteArray := prog_14_method_27_code
def yX12_isBroken : MethodName := ⟨RX12, "isBroken", "(II)Z"⟩
abbrev cX12_lawful : ByteArray := prog_14_method_28_code
def yX12_lawful : MethodName := ⟨RX12, "lawful", "()I"⟩
abbrev cX12_lawfulBut : ByteArray := prog_14_method_29_code
def yX12_lawfulBut : MethodName := ⟨RX12, "lawfulBut", "(I)I"⟩
abbrev cX12_without : ByteArray := prog_14_method_30_code
def yX12_without : MethodName := ⟨RX12, "without", "(I)I"⟩
abbrev cX12_many : ByteArray := prog_14_method_31_code
def yX12_many : MethodName := ⟨RX12, "many", "(I)I"⟩
abbrev cX12_fewest : ByteArray := prog_14_method_32_code
def yX12_fewest : MethodName := ⟨RX12, "fewest", "()I"⟩
abbrev cX12_forbids : ByteArray := prog_14_method_33_code
def yX12_forbids : MethodName := ⟨RX12, "forbids", "()I"⟩
abbrev cX12_isTeam : ByteArray := prog_14_method_34_code
def yX12_isTeam : MethodName := ⟨RX12, "isTeam", "(I)Z"⟩
abbrev cX12_draw : ByteArray := prog_14_method_35_code
def yX12_draw : MethodName := ⟨RX12, "draw", "(II)I"⟩
abbrev cX12_judge : ByteArray := prog_14_method_36_code
def yX12_judge : MethodName := ⟨RX12, "judge", "(I)I"⟩
abbrev cX12_isOnce : ByteArray := prog_14_method_37_code
def yX12_isOnce : MethodName := ⟨RX12, "isOnce", "(II)Z"⟩
abbrev cX12_order : ByteArray := prog_14_method_38_code
def yX12_order : MethodName := ⟨RX12, "order", "(I)Z"⟩
abbrev cX12_arrange : ByteArray := prog_14_method_39_code
def yX12_arrange : MethodName := ⟨RX12, "arrange", "(I)Z"⟩
abbrev cX12_placedIn : ByteArray := prog_14_method_40_code
def yX12_placedIn : MethodName := ⟨RX12, "placedIn", "(II)I"⟩
abbrev cX12_isAsPlaced : ByteArray := prog_14_method_41_code
def yX12_isAsPlaced : MethodName := ⟨RX12, "isAsPlaced", "(II)Z"⟩
abbrev cX12_shut : ByteArray := prog_14_method_42_code
def yX12_shut : MethodName := ⟨RX12, "shut", "(III)I"⟩
abbrev cX12_ball : ByteArray := prog_14_method_43_code
def yX12_ball : MethodName := ⟨RX12, "ball", "(I)I"⟩
abbrev cX12_whyOf : ByteArray := prog_14_method_44_code
def yX12_whyOf : MethodName := ⟨RX12, "whyOf", "(I)I"⟩
abbrev cX12_why : ByteArray := prog_14_method_45_code
def yX12_why : MethodName := ⟨RX12, "why", "(I)I"⟩
abbrev cX12_blame : ByteArray := prog_14_method_46_code
def yX12_blame : MethodName := ⟨RX12, "blame", "(I)I"⟩
abbrev cX12_clear : ByteArray := prog_14_method_47_code
def yX12_clear : MethodName := ⟨RX12, "clear", "()I"⟩
abbrev cX12_undo : ByteArray := prog_14_method_48_code
def yX12_undo : MethodName := ⟨RX12, "undo", "()I"⟩
abbrev cX12_placed : ByteArray := prog_14_method_49_code
def yX12_placed : MethodName := ⟨RX12, "placed", "(I)I"⟩
abbrev cX12_ends : ByteArray := prog_14_method_50_code
def yX12_ends : MethodName := ⟨RX12, "ends", "(I)I"⟩
abbrev cX12_turnsAs : ByteArray := prog_14_method_51_code
def yX12_turnsAs : MethodName := ⟨RX12, "turnsAs", "()V"⟩
abbrev cX12_layMasks : ByteArray := prog_14_method_52_code
def yX12_layMasks : MethodName := ⟨RX12, "layMasks", "()V"⟩
abbrev cX12_digit : ByteArray := prog_14_method_53_code
def yX12_digit : MethodName := ⟨RX12, "digit", "(II)I"⟩
abbrev cX12_agreeing : ByteArray := prog_14_method_54_code
def yX12_agreeing : MethodName := ⟨RX12, "agreeing", "(II)I"⟩
abbrev cX12_share : ByteArray := prog_14_method_55_code
def yX12_share : MethodName := ⟨RX12, "share", "(I)I"⟩
abbrev cX12_comes : ByteArray := prog_14_method_56_code
def yX12_comes : MethodName := ⟨RX12, "comes", "(IIIIZ)V"⟩
abbrev cX12_pot : ByteArray := prog_14_method_57_code
def yX12_pot : MethodName := ⟨RX12, "pot", "(IIIZ)V"⟩
abbrev cX12_rankOf : ByteArray := prog_14_method_58_code
def yX12_rankOf : MethodName := ⟨RX12, "rankOf", "(I)I"⟩
abbrev cX12_layStage : ByteArray := prog_14_method_59_code
def yX12_layStage : MethodName := ⟨RX12, "layStage", "(I)V"⟩
abbrev cX12_layWeights : ByteArray := prog_14_method_60_code
def yX12_layWeights : MethodName := ⟨RX12, "layWeights", "(IZ)V"⟩
abbrev cX12_placedPart : ByteArray := prog_14_method_61_code
def yX12_placedPart : MethodName := ⟨RX12, "placedPart", "(II)I"⟩
abbrev cX12_allRows : ByteArray := prog_14_method_62_code
def yX12_allRows : MethodName := ⟨RX12, "allRows", "()J"⟩
abbrev cX12_pairRows : ByteArray := prog_14_method_63_code
def yX12_pairRows : MethodName := ⟨RX12, "pairRows", "(II)J"⟩
abbrev cX12_isWay : ByteArray := prog_14_method_64_code
def yX12_isWay : MethodName := ⟨RX12, "isWay", "(I)Z"⟩
abbrev cX12_pair : ByteArray := prog_14_method_65_code
def yX12_pair : MethodName := ⟨RX12, "pair", "(III)J"⟩
abbrev cX12_place : ByteArray := prog_14_method_66_code
def yX12_place : MethodName := ⟨RX12, "place", "(III)J"⟩
abbrev cX12_all : ByteArray := prog_14_method_67_code
def yX12_all : MethodName := ⟨RX12, "all", "(I)J"⟩
abbrev cX12_layApart : ByteArray := prog_14_method_68_code
def yX12_layApart : MethodName := ⟨RX12, "layApart", "(II)V"⟩
abbrev cX12_apart : ByteArray := prog_14_method_69_code
def yX12_apart : MethodName := ⟨RX12, "apart", "(III)J"⟩
abbrev cX12_nearest : ByteArray := prog_14_method_70_code
def yX12_nearest : MethodName := ⟨RX12, "nearest", "(I)I"⟩
abbrev cX12_put : ByteArray := prog_14_method_71_code
def yX12_put : MethodName := ⟨RX12, "put", "(III)I"⟩
abbrev cX12_putOne : ByteArray := prog_14_method_72_code
def yX12_putOne : MethodName := ⟨RX12, "putOne", "(III)I"⟩
abbrev cX12_leads : ByteArray := prog_14_method_73_code
def yX12_leads : MethodName := ⟨RX12, "leads", "(I)I"⟩
abbrev cX12_moves : ByteArray := prog_14_method_74_code
def yX12_moves : MethodName := ⟨RX12, "moves", "(III)J"⟩
abbrev cX12_isEven : ByteArray := prog_14_method_75_code
def yX12_isEven : MethodName := ⟨RX12, "isEven", "(II)Z"⟩
abbrev cX12_leave : ByteArray := prog_14_method_76_code
def yX12_leave : MethodName := ⟨RX12, "leave", "(I)I"⟩
abbrev cX12_laySwaps : ByteArray := prog_14_method_77_code
def yX12_laySwaps : MethodName := ⟨RX12, "laySwaps", "()V"⟩
abbrev cX12_swapped : ByteArray := prog_14_method_78_code
def yX12_swapped : MethodName := ⟨RX12, "swapped", "(IIII)I"⟩
abbrev cX12_parts : ByteArray := prog_14_method_79_code
def yX12_parts : MethodName := ⟨RX12, "parts", "(I)I"⟩
abbrev cX12_fills : ByteArray := prog_14_method_80_code
def yX12_fills : MethodName := ⟨RX12, "fills", "(II)I"⟩
abbrev cX12_mixes : ByteArray := prog_14_method_81_code
def yX12_mixes : MethodName := ⟨RX12, "mixes", "(I)V"⟩
abbrev cX12_mixesOne : ByteArray := prog_14_method_82_code
def yX12_mixesOne : MethodName := ⟨RX12, "mixesOne", "(I)V"⟩
abbrev cX12_mix : ByteArray := prog_14_method_83_code
def yX12_mix : MethodName := ⟨RX12, "mix", "(II)I"⟩
abbrev cX12_mixed : ByteArray := prog_14_method_84_code
def yX12_mixed : MethodName := ⟨RX12, "mixed", "(II)J"⟩
abbrev cX12_comesNext : ByteArray := prog_14_method_85_code
def yX12_comesNext : MethodName := ⟨RX12, "comesNext", "(J)J"⟩
abbrev cX12_run : ByteArray := prog_14_method_86_code
def yX12_run : MethodName := ⟨RX12, "run", "(II)I"⟩
abbrev cX12_evenly : ByteArray := prog_14_method_87_code
def yX12_evenly : MethodName := ⟨RX12, "evenly", "(II)I"⟩
abbrev cX12_fails : ByteArray := prog_14_method_88_code
def yX12_fails : MethodName := ⟨RX12, "fails", "(I)I"⟩
abbrev cX12_look : ByteArray := prog_14_method_89_code
def yX12_look : MethodName := ⟨RX12, "look", "(II)I"⟩
abbrev cX12_count : ByteArray := prog_14_method_90_code
def yX12_count : MethodName := ⟨RX12, "count", "(I)I"⟩
def RJx00060 : String := "java/lang/ArrayIndexOutOfBoundsException"
def TJx00060 : u_T := fun k => match k with
  | 0 => ("java/lang/Throwable", "cause", "Ljava/lang/Throwable;", false)
  | 1 => ("java/lang/Throwable", "stackTrace", "[Ljava/lang/StackTraceElement;", false)
  | 2 => ("java/lang/Throwable", "suppressedExceptions", "Ljava/util/List;", false)
  | 3 => ("java/lang/Throwable", "detailMessage", "Ljava/lang/String;", false)
  | 4 => ("java/lang/Throwable", "backtrace", "Ljava/lang/Object;", false)
  | _ => ("java/lang/Throwable", "depth", "I", false)
def RJ0 : String := "java/lang/String"
def TJ0 : u_T := fun k => match k with
  | 0 => ("java/lang/String", "value", "[B", true)
  | 1 => ("java/lang/String", "coder", "B", true)
  | 2 => ("java/lang/String", "hash", "I", false)
  | _ => ("java/lang/String", "hashIsZero", "Z", false)
def RJ4 : String := "java/lang/StringBuilder"
def TJ4 : u_T := fun k => match k with
  | 0 => ("java/lang/AbstractStringBuilder", "value", "[B", false)
  | 1 => ("java/lang/AbstractStringBuilder", "coder", "B", false)
  | 2 => ("java/lang/AbstractStringBuilder", "maybeLatin1", "Z", false)
  | _ => ("java/lang/AbstractStringBuilder", "count", "I", false)
def wsX12_plain : List Cond := .code yX12_plain cX12_plain 1 none :: ([.fieldLink RX12 170 "BallPotsModel" "groupsRead" "I", .fieldLink RX12 173 "BallPotsModel" "potsRead" "I", .fieldLink RX12 176 "BallPotsModel" "teamsRead" "I", .fieldLink RX12 179 "BallPotsModel" "marksRead" "I", .fieldLink RX12 182 "BallPotsModel" "barsRead" "I"] ++ wsX120)
def wsX12_layRows : List Cond := .code yX12_layRows cX12_layRows 6 none :: ([.fieldLink RX12 245 "BallPotsModel" "ranks" "I", .fieldLink RX12 185 "BallPotsModel" "groups" "I", .fieldLink RX12 44 "BallPotsModel" "row" "[I"] ++ wsX120)
def wsX12_rankIn : List Cond := .code yX12_rankIn cX12_rankIn 5 (some .int) :: ([.fieldLink RX12 188 "BallPotsModel" "pots" "I", .fieldLink RX12 245 "BallPotsModel" "ranks" "I"] ++ wsX120)
def wsX12_teams : List Cond := .code yX12_teams cX12_teams 1 (some .int) :: ([.fieldLink RX12 185 "BallPotsModel" "groups" "I", .fieldLink RX12 188 "BallPotsModel" "pots" "I"] ++ wsX120)
def wsX12_isBroken : List Cond := .code yX12_isBroken cX12_isBroken 8 (some .boolean) :: ([.fieldLink RX12 29 "BallPotsModel" "bar" "[I", .fieldLink RX12 51 "BallPotsModel" "groupOf" "[B", .fieldLink RX12 185 "BallPotsModel" "groups" "I", .fieldLink RX12 26 "BallPotsModel" "marked" "[I", .methodLink RX12 241 yX12_teams, .instanceMethod yX12_teams, .selects RX12 yX12_teams yX12_teams, .initialized RX12, .code yX12_teams cX12_teams 1 (some .int), .fieldLink RX12 188 "BallPotsModel" "pots" "I"] ++ wsX120)
def wsX12_layDraws : List Cond := .code yX12_layDraws cX12_layDraws 5 none :: ([.fieldLink RX12 248 "BallPotsModel" "draws" "I", .fieldLink RX12 188 "BallPotsModel" "pots" "I", .fieldLink RX12 245 "BallPotsModel" "ranks" "I", .fieldLink RX12 251 "BallPotsModel" "lawful" "I", .fieldLink RX12 185 "BallPotsModel" "groups" "I", .fieldLink RX12 51 "BallPotsModel" "groupOf" "[B", .fieldLink RX12 44 "BallPotsModel" "row" "[I", .fieldLink RX12 47 "BallPotsModel" "breaks" "[I", .fieldLink RX12 225 "BallPotsModel" "bars" "I", .methodLink RX12 254 yX12_rankIn, .instanceMethod yX12_rankIn, .selects RX12 yX12_rankIn yX12_rankIn, .initialized RX12, .code yX12_rankIn cX12_rankIn 5 (some .int), .methodLink RX12 257 yX12_isBroken, .instanceMethod yX12_isBroken, .selects RX12 yX12_isBroken yX12_isBroken, .code yX12_isBroken cX12_isBroken 8 (some .boolean), .fieldLink RX12 29 "BallPotsModel" "bar" "[I", .fieldLink RX12 26 "BallPotsModel" "marked" "[I", .methodLink RX12 241 yX12_teams, .instanceMethod yX12_teams, .selects RX12 yX12_teams yX12_teams, .code yX12_teams cX12_teams 1 (some .int)] ++ wsX120)
def wsX12_keep_r1 : List Cond := [Cond.fieldLink RX12 170 "BallPotsModel" "groupsRead" "I", Cond.fieldLink RX12 185 "BallPotsModel" "groups" "I", Cond.fieldLink RX12 173 "BallPotsModel" "potsRead" "I", Cond.fieldLink RX12 188 "BallPotsModel" "pots" "I", Cond.fieldLink RX12 179 "BallPotsModel" "marksRead" "I", Cond.fieldLink RX12 222 "BallPotsModel" "marks" "I", Cond.fieldLink RX12 182 "BallPotsModel" "barsRead" "I", Cond.fieldLink RX12 225 "BallPotsModel" "bars" "I", Cond.fieldLink RX12 176 "BallPotsModel" "teamsRead" "I", Cond.fieldLink RX12 20 "BallPotsModel" "team" "[I", Cond.fieldLink RX12 32 "BallPotsModel" "teamRead" "[I", Cond.fieldLink RX12 23 "BallPotsModel" "markName" "[I", Cond.fieldLink RX12 35 "BallPotsModel" "markRead" "[I", Cond.fieldLink RX12 26 "BallPotsModel" "marked" "[I", Cond.fieldLink RX12 38 "BallPotsModel" "markedRead" "[I", Cond.fieldLink RX12 29 "BallPotsModel" "bar" "[I", Cond.fieldLink RX12 41 "BallPotsModel" "barRead" "[I", Cond.fieldLink RX12 59 "BallPotsModel" "order" "[I", Cond.fieldLink RX12 62 "BallPotsModel" "arranged" "[I", Cond.fieldLink RX12 234 "BallPotsModel" "out" "I", Cond.fieldLink RX12 102 "BallPotsModel" "laid" "I", Cond.methodLink RX12 228 yX12_layRows, Cond.instanceMethod yX12_layRows, Cond.selects RX12 yX12_layRows yX12_layRows]
def wsX12_keep_r2 : List Cond := [Cond.initialized RX12, Cond.code yX12_layRows cX12_layRows 6 none, Cond.fieldLink RX12 245 "BallPotsModel" "ranks" "I", Cond.fieldLink RX12 44 "BallPotsModel" "row" "[I", Cond.methodLink RX12 231 yX12_layDraws, Cond.instanceMethod yX12_layDraws, Cond.selects RX12 yX12_layDraws yX12_layDraws, Cond.code yX12_layDraws cX12_layDraws 5 none, Cond.fieldLink RX12 248 "BallPotsModel" "draws" "I", Cond.fieldLink RX12 251 "BallPotsModel" "lawful" "I", Cond.fieldLink RX12 51 "BallPotsModel" "groupOf" "[B", Cond.fieldLink RX12 47 "BallPotsModel" "breaks" "[I", Cond.methodLink RX12 254 yX12_rankIn, Cond.instanceMethod yX12_rankIn, Cond.selects RX12 yX12_rankIn yX12_rankIn, Cond.code yX12_rankIn cX12_rankIn 5 (some .int), Cond.methodLink RX12 257 yX12_isBroken, Cond.instanceMethod yX12_isBroken, Cond.selects RX12 yX12_isBroken yX12_isBroken, Cond.code yX12_isBroken cX12_isBroken 8 (some .boolean), Cond.methodLink RX12 241 yX12_teams, Cond.instanceMethod yX12_teams, Cond.selects RX12 yX12_teams yX12_teams, Cond.code yX12_teams cX12_teams 1 (some .int)]
def wsX12_keep : List Cond := .code yX12_keep cX12_keep 2 none :: ((wsX12_keep_r1 ++ wsX12_keep_r2) ++ wsX120)
def wsX12_feed : List Cond := .code yX12_feed cX12_feed 8 (some .int) :: ([.fieldLink RX12 132 "BallPotsModel" "thrown" "I", .fieldLink RX12 135 "BallPotsModel" "tapeSize" "I", .fieldLink RX12 7 "BallPotsModel" "tape" "[I"] ++ wsX120)
def wsX12_isIn : List Cond := .code yX12_isIn cX12_isIn 3 (some .boolean) :: ([])
def wsX12_wrong : List Cond := .code yX12_wrong cX12_wrong 2 (some .boolean) :: ([.fieldLink RX12 138 "BallPotsModel" "fault" "I", .fieldLink RX12 141 "BallPotsModel" "place" "I", .fieldLink RX12 16 "BallPotsModel" "faultPlace" "I"] ++ wsX120)
def wsX12_wordAt : List Cond := .code yX12_wordAt cX12_wordAt 8 (some .int) :: ([.fieldLink RX12 13 "BallPotsModel" "words" "[I", .fieldLink RX12 7 "BallPotsModel" "tape" "[I"] ++ wsX120)
def wsX12_isSmall : List Cond := .code yX12_isSmall cX12_isSmall 2 (some .boolean) :: ([.fieldLink RX12 144 "BallPotsModel" "stop" "I", .fieldLink RX12 7 "BallPotsModel" "tape" "[I"] ++ wsX120)
def wsX12_isDigit : List Cond := .code yX12_isDigit cX12_isDigit 2 (some .boolean) :: ([.fieldLink RX12 144 "BallPotsModel" "stop" "I", .fieldLink RX12 7 "BallPotsModel" "tape" "[I"] ++ wsX120)
def wsX12_packed : List Cond := .code yX12_packed cX12_packed 5 (some .int) :: ([.fieldLink RX12 7 "BallPotsModel" "tape" "[I"] ++ wsX120)
def wsX12_take : List Cond := .code yX12_take cX12_take 1 none :: ([.fieldLink RX12 147 "BallPotsModel" "next" "I", .fieldLink RX12 144 "BallPotsModel" "stop" "I", .fieldLink RX12 7 "BallPotsModel" "tape" "[I", .fieldLink RX12 141 "BallPotsModel" "place" "I", .fieldLink RX12 150 "BallPotsModel" "kind" "I", .fieldLink RX12 161 "BallPotsModel" "which" "I", .methodLink RX12 153 yX12_isSmall, .instanceMethod yX12_isSmall, .selects RX12 yX12_isSmall yX12_isSmall, .initialized RX12, .code yX12_isSmall cX12_isSmall 2 (some .boolean), .methodLink RX12 157 yX12_wordAt, .instanceMethod yX12_wordAt, .selects RX12 yX12_wordAt yX12_wordAt, .code yX12_wordAt cX12_wordAt 8 (some .int), .fieldLink RX12 13 "BallPotsModel" "words" "[I", .methodLink RX12 164 yX12_packed, .instanceMethod yX12_packed, .selects RX12 yX12_packed yX12_packed, .code yX12_packed cX12_packed 5 (some .int), .methodLink RX12 167 yX12_isDigit, .instanceMethod yX12_isDigit, .selects RX12 yX12_isDigit yX12_isDigit, .code yX12_isDigit cX12_isDigit 2 (some .boolean)] ++ wsX120)
def wsX12_isNumber : List Cond := .code yX12_isNumber cX12_isNumber 3 (some .boolean) :: ([.fieldLink RX12 150 "BallPotsModel" "kind" "I", .fieldLink RX12 161 "BallPotsModel" "which" "I", .methodLink RX12 191 yX12_wrong, .instanceMethod yX12_wrong, .selects RX12 yX12_wrong yX12_wrong, .initialized RX12, .code yX12_wrong cX12_wrong 2 (some .boolean), .fieldLink RX12 138 "BallPotsModel" "fault" "I", .fieldLink RX12 141 "BallPotsModel" "place" "I", .fieldLink RX12 16 "BallPotsModel" "faultPlace" "I"] ++ wsX120)
def wsX12_teamOf : List Cond := .code yX12_teamOf cX12_teamOf 3 (some .int) :: ([.fieldLink RX12 176 "BallPotsModel" "teamsRead" "I", .fieldLink RX12 32 "BallPotsModel" "teamRead" "[I"] ++ wsX120)
def wsX12_markOf : List Cond := .code yX12_markOf cX12_markOf 3 (some .int) :: ([.fieldLink RX12 179 "BallPotsModel" "marksRead" "I", .fieldLink RX12 35 "BallPotsModel" "markRead" "[I"] ++ wsX120)
def wsX12_potRead_r1 : List Cond := [Cond.fieldLink RX12 173 "BallPotsModel" "potsRead" "I", Cond.fieldLink RX12 176 "BallPotsModel" "teamsRead" "I", Cond.fieldLink RX12 170 "BallPotsModel" "groupsRead" "I", Cond.fieldLink RX12 150 "BallPotsModel" "kind" "I", Cond.fieldLink RX12 161 "BallPotsModel" "which" "I", Cond.fieldLink RX12 32 "BallPotsModel" "teamRead" "[I", Cond.methodLink RX12 191 yX12_wrong, Cond.instanceMethod yX12_wrong, Cond.selects RX12 yX12_wrong yX12_wrong, Cond.initialized RX12, Cond.code yX12_wrong cX12_wrong 2 (some .boolean), Cond.fieldLink RX12 138 "BallPotsModel" "fault" "I", Cond.fieldLink RX12 141 "BallPotsModel" "place" "I", Cond.fieldLink RX12 16 "BallPotsModel" "faultPlace" "I", Cond.methodLink RX12 194 yX12_take, Cond.instanceMethod yX12_take, Cond.selects RX12 yX12_take yX12_take, Cond.code yX12_take cX12_take 1 none, Cond.fieldLink RX12 147 "BallPotsModel" "next" "I", Cond.fieldLink RX12 144 "BallPotsModel" "stop" "I", Cond.fieldLink RX12 7 "BallPotsModel" "tape" "[I", Cond.methodLink RX12 153 yX12_isSmall, Cond.instanceMethod yX12_isSmall, Cond.selects RX12 yX12_isSmall yX12_isSmall]
def wsX12_potRead_r2 : List Cond := [Cond.code yX12_isSmall cX12_isSmall 2 (some .boolean), Cond.methodLink RX12 157 yX12_wordAt, Cond.instanceMethod yX12_wordAt, Cond.selects RX12 yX12_wordAt yX12_wordAt, Cond.code yX12_wordAt cX12_wordAt 8 (some .int), Cond.fieldLink RX12 13 "BallPotsModel" "words" "[I", Cond.methodLink RX12 164 yX12_packed, Cond.instanceMethod yX12_packed, Cond.selects RX12 yX12_packed yX12_packed, Cond.code yX12_packed cX12_packed 5 (some .int), Cond.methodLink RX12 167 yX12_isDigit, Cond.instanceMethod yX12_isDigit, Cond.selects RX12 yX12_isDigit yX12_isDigit, Cond.code yX12_isDigit cX12_isDigit 2 (some .boolean), Cond.methodLink RX12 197 yX12_teamOf, Cond.instanceMethod yX12_teamOf, Cond.selects RX12 yX12_teamOf yX12_teamOf, Cond.code yX12_teamOf cX12_teamOf 3 (some .int)]
def wsX12_potRead : List Cond := .code yX12_potRead cX12_potRead 2 (some .boolean) :: ((wsX12_potRead_r1 ++ wsX12_potRead_r2) ++ wsX120)
def wsX12_markLine_r1 : List Cond := [Cond.fieldLink RX12 179 "BallPotsModel" "marksRead" "I", Cond.fieldLink RX12 150 "BallPotsModel" "kind" "I", Cond.fieldLink RX12 161 "BallPotsModel" "which" "I", Cond.fieldLink RX12 35 "BallPotsModel" "markRead" "[I", Cond.fieldLink RX12 38 "BallPotsModel" "markedRead" "[I", Cond.methodLink RX12 191 yX12_wrong, Cond.instanceMethod yX12_wrong, Cond.selects RX12 yX12_wrong yX12_wrong, Cond.initialized RX12, Cond.code yX12_wrong cX12_wrong 2 (some .boolean), Cond.fieldLink RX12 138 "BallPotsModel" "fault" "I", Cond.fieldLink RX12 141 "BallPotsModel" "place" "I", Cond.fieldLink RX12 16 "BallPotsModel" "faultPlace" "I", Cond.methodLink RX12 194 yX12_take, Cond.instanceMethod yX12_take, Cond.selects RX12 yX12_take yX12_take, Cond.code yX12_take cX12_take 1 none, Cond.fieldLink RX12 147 "BallPotsModel" "next" "I", Cond.fieldLink RX12 144 "BallPotsModel" "stop" "I", Cond.fieldLink RX12 7 "BallPotsModel" "tape" "[I", Cond.methodLink RX12 153 yX12_isSmall, Cond.instanceMethod yX12_isSmall, Cond.selects RX12 yX12_isSmall yX12_isSmall, Cond.code yX12_isSmall cX12_isSmall 2 (some .boolean)]
def wsX12_markLine_r2 : List Cond := [Cond.methodLink RX12 157 yX12_wordAt, Cond.instanceMethod yX12_wordAt, Cond.selects RX12 yX12_wordAt yX12_wordAt, Cond.code yX12_wordAt cX12_wordAt 8 (some .int), Cond.fieldLink RX12 13 "BallPotsModel" "words" "[I", Cond.methodLink RX12 164 yX12_packed, Cond.instanceMethod yX12_packed, Cond.selects RX12 yX12_packed yX12_packed, Cond.code yX12_packed cX12_packed 5 (some .int), Cond.methodLink RX12 167 yX12_isDigit, Cond.instanceMethod yX12_isDigit, Cond.selects RX12 yX12_isDigit yX12_isDigit, Cond.code yX12_isDigit cX12_isDigit 2 (some .boolean), Cond.methodLink RX12 201 yX12_markOf, Cond.instanceMethod yX12_markOf, Cond.selects RX12 yX12_markOf yX12_markOf, Cond.code yX12_markOf cX12_markOf 3 (some .int), Cond.methodLink RX12 197 yX12_teamOf, Cond.instanceMethod yX12_teamOf, Cond.selects RX12 yX12_teamOf yX12_teamOf, Cond.code yX12_teamOf cX12_teamOf 3 (some .int), Cond.fieldLink RX12 176 "BallPotsModel" "teamsRead" "I", Cond.fieldLink RX12 32 "BallPotsModel" "teamRead" "[I"]
def wsX12_markLine : List Cond := .code yX12_markLine cX12_markLine 4 (some .boolean) :: ((wsX12_markLine_r1 ++ wsX12_markLine_r2) ++ wsX120)
def wsX12_barLine_r1 : List Cond := [Cond.fieldLink RX12 182 "BallPotsModel" "barsRead" "I", Cond.fieldLink RX12 161 "BallPotsModel" "which" "I", Cond.fieldLink RX12 150 "BallPotsModel" "kind" "I", Cond.fieldLink RX12 170 "BallPotsModel" "groupsRead" "I", Cond.fieldLink RX12 41 "BallPotsModel" "barRead" "[I", Cond.methodLink RX12 191 yX12_wrong, Cond.instanceMethod yX12_wrong, Cond.selects RX12 yX12_wrong yX12_wrong, Cond.initialized RX12, Cond.code yX12_wrong cX12_wrong 2 (some .boolean), Cond.fieldLink RX12 138 "BallPotsModel" "fault" "I", Cond.fieldLink RX12 141 "BallPotsModel" "place" "I", Cond.fieldLink RX12 16 "BallPotsModel" "faultPlace" "I", Cond.methodLink RX12 194 yX12_take, Cond.instanceMethod yX12_take, Cond.selects RX12 yX12_take yX12_take, Cond.code yX12_take cX12_take 1 none, Cond.fieldLink RX12 147 "BallPotsModel" "next" "I", Cond.fieldLink RX12 144 "BallPotsModel" "stop" "I", Cond.fieldLink RX12 7 "BallPotsModel" "tape" "[I", Cond.methodLink RX12 153 yX12_isSmall, Cond.instanceMethod yX12_isSmall, Cond.selects RX12 yX12_isSmall yX12_isSmall, Cond.code yX12_isSmall cX12_isSmall 2 (some .boolean)]
def wsX12_barLine_r2 : List Cond := [Cond.methodLink RX12 157 yX12_wordAt, Cond.instanceMethod yX12_wordAt, Cond.selects RX12 yX12_wordAt yX12_wordAt, Cond.code yX12_wordAt cX12_wordAt 8 (some .int), Cond.fieldLink RX12 13 "BallPotsModel" "words" "[I", Cond.methodLink RX12 164 yX12_packed, Cond.instanceMethod yX12_packed, Cond.selects RX12 yX12_packed yX12_packed, Cond.code yX12_packed cX12_packed 5 (some .int), Cond.methodLink RX12 167 yX12_isDigit, Cond.instanceMethod yX12_isDigit, Cond.selects RX12 yX12_isDigit yX12_isDigit, Cond.code yX12_isDigit cX12_isDigit 2 (some .boolean), Cond.methodLink RX12 204 yX12_isNumber, Cond.instanceMethod yX12_isNumber, Cond.selects RX12 yX12_isNumber yX12_isNumber, Cond.code yX12_isNumber cX12_isNumber 3 (some .boolean), Cond.methodLink RX12 201 yX12_markOf, Cond.instanceMethod yX12_markOf, Cond.selects RX12 yX12_markOf yX12_markOf, Cond.code yX12_markOf cX12_markOf 3 (some .int), Cond.fieldLink RX12 179 "BallPotsModel" "marksRead" "I", Cond.fieldLink RX12 35 "BallPotsModel" "markRead" "[I", Cond.methodLink RX12 197 yX12_teamOf]
def wsX12_barLine_r3 : List Cond := [Cond.instanceMethod yX12_teamOf, Cond.selects RX12 yX12_teamOf yX12_teamOf, Cond.code yX12_teamOf cX12_teamOf 3 (some .int), Cond.fieldLink RX12 176 "BallPotsModel" "teamsRead" "I", Cond.fieldLink RX12 32 "BallPotsModel" "teamRead" "[I"]
def wsX12_barLine : List Cond := .code yX12_barLine cX12_barLine 4 (some .boolean) :: ((wsX12_barLine_r1 ++ (wsX12_barLine_r2 ++ wsX12_barLine_r3)) ++ wsX120)
def wsX12_lineRead_r1 : List Cond := [Cond.fieldLink RX12 150 "BallPotsModel" "kind" "I", Cond.fieldLink RX12 161 "BallPotsModel" "which" "I", Cond.fieldLink RX12 170 "BallPotsModel" "groupsRead" "I", Cond.methodLink RX12 191 yX12_wrong, Cond.instanceMethod yX12_wrong, Cond.selects RX12 yX12_wrong yX12_wrong, Cond.initialized RX12, Cond.code yX12_wrong cX12_wrong 2 (some .boolean), Cond.fieldLink RX12 138 "BallPotsModel" "fault" "I", Cond.fieldLink RX12 141 "BallPotsModel" "place" "I", Cond.fieldLink RX12 16 "BallPotsModel" "faultPlace" "I", Cond.methodLink RX12 194 yX12_take, Cond.instanceMethod yX12_take, Cond.selects RX12 yX12_take yX12_take, Cond.code yX12_take cX12_take 1 none, Cond.fieldLink RX12 147 "BallPotsModel" "next" "I", Cond.fieldLink RX12 144 "BallPotsModel" "stop" "I", Cond.fieldLink RX12 7 "BallPotsModel" "tape" "[I", Cond.methodLink RX12 153 yX12_isSmall, Cond.instanceMethod yX12_isSmall, Cond.selects RX12 yX12_isSmall yX12_isSmall, Cond.code yX12_isSmall cX12_isSmall 2 (some .boolean), Cond.methodLink RX12 157 yX12_wordAt, Cond.instanceMethod yX12_wordAt]
def wsX12_lineRead_r2 : List Cond := [Cond.selects RX12 yX12_wordAt yX12_wordAt, Cond.code yX12_wordAt cX12_wordAt 8 (some .int), Cond.fieldLink RX12 13 "BallPotsModel" "words" "[I", Cond.methodLink RX12 164 yX12_packed, Cond.instanceMethod yX12_packed, Cond.selects RX12 yX12_packed yX12_packed, Cond.code yX12_packed cX12_packed 5 (some .int), Cond.methodLink RX12 167 yX12_isDigit, Cond.instanceMethod yX12_isDigit, Cond.selects RX12 yX12_isDigit yX12_isDigit, Cond.code yX12_isDigit cX12_isDigit 2 (some .boolean), Cond.methodLink RX12 204 yX12_isNumber, Cond.instanceMethod yX12_isNumber, Cond.selects RX12 yX12_isNumber yX12_isNumber, Cond.code yX12_isNumber cX12_isNumber 3 (some .boolean), Cond.methodLink RX12 208 yX12_potRead, Cond.instanceMethod yX12_potRead, Cond.selects RX12 yX12_potRead yX12_potRead, Cond.code yX12_potRead cX12_potRead 2 (some .boolean), Cond.fieldLink RX12 173 "BallPotsModel" "potsRead" "I", Cond.fieldLink RX12 176 "BallPotsModel" "teamsRead" "I", Cond.fieldLink RX12 32 "BallPotsModel" "teamRead" "[I", Cond.methodLink RX12 197 yX12_teamOf, Cond.instanceMethod yX12_teamOf]
def wsX12_lineRead_r3 : List Cond := [Cond.selects RX12 yX12_teamOf yX12_teamOf, Cond.code yX12_teamOf cX12_teamOf 3 (some .int), Cond.methodLink RX12 212 yX12_markLine, Cond.instanceMethod yX12_markLine, Cond.selects RX12 yX12_markLine yX12_markLine, Cond.code yX12_markLine cX12_markLine 4 (some .boolean), Cond.fieldLink RX12 179 "BallPotsModel" "marksRead" "I", Cond.fieldLink RX12 35 "BallPotsModel" "markRead" "[I", Cond.fieldLink RX12 38 "BallPotsModel" "markedRead" "[I", Cond.methodLink RX12 201 yX12_markOf, Cond.instanceMethod yX12_markOf, Cond.selects RX12 yX12_markOf yX12_markOf, Cond.code yX12_markOf cX12_markOf 3 (some .int), Cond.methodLink RX12 215 yX12_barLine, Cond.instanceMethod yX12_barLine, Cond.selects RX12 yX12_barLine yX12_barLine, Cond.code yX12_barLine cX12_barLine 4 (some .boolean), Cond.fieldLink RX12 182 "BallPotsModel" "barsRead" "I", Cond.fieldLink RX12 41 "BallPotsModel" "barRead" "[I"]
def wsX12_lineRead : List Cond := .code yX12_lineRead cX12_lineRead 2 (some .boolean) :: ((wsX12_lineRead_r1 ++ (wsX12_lineRead_r2 ++ wsX12_lineRead_r3)) ++ wsX120)
def wsX12_text_r1 : List Cond := [Cond.fieldLink RX12 132 "BallPotsModel" "thrown" "I", Cond.fieldLink RX12 135 "BallPotsModel" "tapeSize" "I", Cond.fieldLink RX12 144 "BallPotsModel" "stop" "I", Cond.fieldLink RX12 138 "BallPotsModel" "fault" "I", Cond.fieldLink RX12 16 "BallPotsModel" "faultPlace" "I", Cond.fieldLink RX12 147 "BallPotsModel" "next" "I", Cond.fieldLink RX12 150 "BallPotsModel" "kind" "I", Cond.methodLink RX12 126 yX12_plain, Cond.instanceMethod yX12_plain, Cond.selects RX12 yX12_plain yX12_plain, Cond.initialized RX12, Cond.code yX12_plain cX12_plain 1 none, Cond.fieldLink RX12 170 "BallPotsModel" "groupsRead" "I", Cond.fieldLink RX12 173 "BallPotsModel" "potsRead" "I", Cond.fieldLink RX12 176 "BallPotsModel" "teamsRead" "I", Cond.fieldLink RX12 179 "BallPotsModel" "marksRead" "I", Cond.fieldLink RX12 182 "BallPotsModel" "barsRead" "I", Cond.methodLink RX12 194 yX12_take, Cond.instanceMethod yX12_take, Cond.selects RX12 yX12_take yX12_take, Cond.code yX12_take cX12_take 1 none, Cond.fieldLink RX12 7 "BallPotsModel" "tape" "[I", Cond.fieldLink RX12 141 "BallPotsModel" "place" "I", Cond.fieldLink RX12 161 "BallPotsModel" "which" "I"]
def wsX12_text_r2 : List Cond := [Cond.methodLink RX12 153 yX12_isSmall, Cond.instanceMethod yX12_isSmall, Cond.selects RX12 yX12_isSmall yX12_isSmall, Cond.code yX12_isSmall cX12_isSmall 2 (some .boolean), Cond.methodLink RX12 157 yX12_wordAt, Cond.instanceMethod yX12_wordAt, Cond.selects RX12 yX12_wordAt yX12_wordAt, Cond.code yX12_wordAt cX12_wordAt 8 (some .int), Cond.fieldLink RX12 13 "BallPotsModel" "words" "[I", Cond.methodLink RX12 164 yX12_packed, Cond.instanceMethod yX12_packed, Cond.selects RX12 yX12_packed yX12_packed, Cond.code yX12_packed cX12_packed 5 (some .int), Cond.methodLink RX12 167 yX12_isDigit, Cond.instanceMethod yX12_isDigit, Cond.selects RX12 yX12_isDigit yX12_isDigit, Cond.code yX12_isDigit cX12_isDigit 2 (some .boolean), Cond.methodLink RX12 218 yX12_lineRead, Cond.instanceMethod yX12_lineRead, Cond.selects RX12 yX12_lineRead yX12_lineRead, Cond.code yX12_lineRead cX12_lineRead 2 (some .boolean), Cond.methodLink RX12 191 yX12_wrong, Cond.instanceMethod yX12_wrong, Cond.selects RX12 yX12_wrong yX12_wrong]
def wsX12_text_r3 : List Cond := [Cond.code yX12_wrong cX12_wrong 2 (some .boolean), Cond.methodLink RX12 204 yX12_isNumber, Cond.instanceMethod yX12_isNumber, Cond.selects RX12 yX12_isNumber yX12_isNumber, Cond.code yX12_isNumber cX12_isNumber 3 (some .boolean), Cond.methodLink RX12 208 yX12_potRead, Cond.instanceMethod yX12_potRead, Cond.selects RX12 yX12_potRead yX12_potRead, Cond.code yX12_potRead cX12_potRead 2 (some .boolean), Cond.fieldLink RX12 32 "BallPotsModel" "teamRead" "[I", Cond.methodLink RX12 197 yX12_teamOf, Cond.instanceMethod yX12_teamOf, Cond.selects RX12 yX12_teamOf yX12_teamOf, Cond.code yX12_teamOf cX12_teamOf 3 (some .int), Cond.methodLink RX12 212 yX12_markLine, Cond.instanceMethod yX12_markLine, Cond.selects RX12 yX12_markLine yX12_markLine, Cond.code yX12_markLine cX12_markLine 4 (some .boolean), Cond.fieldLink RX12 35 "BallPotsModel" "markRead" "[I", Cond.fieldLink RX12 38 "BallPotsModel" "markedRead" "[I", Cond.methodLink RX12 201 yX12_markOf, Cond.instanceMethod yX12_markOf, Cond.selects RX12 yX12_markOf yX12_markOf, Cond.code yX12_markOf cX12_markOf 3 (some .int)]
def wsX12_text_r4 : List Cond := [Cond.methodLink RX12 215 yX12_barLine, Cond.instanceMethod yX12_barLine, Cond.selects RX12 yX12_barLine yX12_barLine, Cond.code yX12_barLine cX12_barLine 4 (some .boolean), Cond.fieldLink RX12 41 "BallPotsModel" "barRead" "[I", Cond.methodLink RX12 129 yX12_keep, Cond.instanceMethod yX12_keep, Cond.selects RX12 yX12_keep yX12_keep, Cond.code yX12_keep cX12_keep 2 none, Cond.fieldLink RX12 185 "BallPotsModel" "groups" "I", Cond.fieldLink RX12 188 "BallPotsModel" "pots" "I", Cond.fieldLink RX12 222 "BallPotsModel" "marks" "I", Cond.fieldLink RX12 225 "BallPotsModel" "bars" "I", Cond.fieldLink RX12 20 "BallPotsModel" "team" "[I", Cond.fieldLink RX12 23 "BallPotsModel" "markName" "[I", Cond.fieldLink RX12 26 "BallPotsModel" "marked" "[I", Cond.fieldLink RX12 29 "BallPotsModel" "bar" "[I", Cond.fieldLink RX12 59 "BallPotsModel" "order" "[I", Cond.fieldLink RX12 62 "BallPotsModel" "arranged" "[I", Cond.fieldLink RX12 234 "BallPotsModel" "out" "I", Cond.fieldLink RX12 102 "BallPotsModel" "laid" "I", Cond.methodLink RX12 228 yX12_layRows, Cond.instanceMethod yX12_layRows, Cond.selects RX12 yX12_layRows yX12_layRows]
def wsX12_text_r5 : List Cond := [Cond.code yX12_layRows cX12_layRows 6 none, Cond.fieldLink RX12 245 "BallPotsModel" "ranks" "I", Cond.fieldLink RX12 44 "BallPotsModel" "row" "[I", Cond.methodLink RX12 231 yX12_layDraws, Cond.instanceMethod yX12_layDraws, Cond.selects RX12 yX12_layDraws yX12_layDraws, Cond.code yX12_layDraws cX12_layDraws 5 none, Cond.fieldLink RX12 248 "BallPotsModel" "draws" "I", Cond.fieldLink RX12 251 "BallPotsModel" "lawful" "I", Cond.fieldLink RX12 51 "BallPotsModel" "groupOf" "[B", Cond.fieldLink RX12 47 "BallPotsModel" "breaks" "[I", Cond.methodLink RX12 254 yX12_rankIn, Cond.instanceMethod yX12_rankIn, Cond.selects RX12 yX12_rankIn yX12_rankIn, Cond.code yX12_rankIn cX12_rankIn 5 (some .int), Cond.methodLink RX12 257 yX12_isBroken, Cond.instanceMethod yX12_isBroken, Cond.selects RX12 yX12_isBroken yX12_isBroken, Cond.code yX12_isBroken cX12_isBroken 8 (some .boolean), Cond.methodLink RX12 241 yX12_teams, Cond.instanceMethod yX12_teams, Cond.selects RX12 yX12_teams yX12_teams, Cond.code yX12_teams cX12_teams 1 (some .int)]
def wsX12_text : List Cond := .code yX12_text cX12_text 3 (some .int) :: ((wsX12_text_r1 ++ (wsX12_text_r2 ++ (wsX12_text_r3 ++ (wsX12_text_r4 ++ wsX12_text_r5)))) ++ wsX120)
def wsX12_fault : List Cond := .code yX12_fault cX12_fault 2 (some .int) :: ([.fieldLink RX12 132 "BallPotsModel" "thrown" "I", .fieldLink RX12 138 "BallPotsModel" "fault" "I", .fieldLink RX12 16 "BallPotsModel" "faultPlace" "I"] ++ wsX120)
def wsX12_named : List Cond := .code yX12_named cX12_named 5 (some .int) :: ([.fieldLink RX12 132 "BallPotsModel" "thrown" "I", .fieldLink RX12 222 "BallPotsModel" "marks" "I", .fieldLink RX12 20 "BallPotsModel" "team" "[I", .fieldLink RX12 23 "BallPotsModel" "markName" "[I", .methodLink RX12 237 yX12_isIn, .static yX12_isIn, .initialized RX12, .code yX12_isIn cX12_isIn 3 (some .boolean), .methodLink RX12 241 yX12_teams, .instanceMethod yX12_teams, .selects RX12 yX12_teams yX12_teams, .code yX12_teams cX12_teams 1 (some .int), .fieldLink RX12 185 "BallPotsModel" "groups" "I", .fieldLink RX12 188 "BallPotsModel" "pots" "I"] ++ wsX120)
def wsX12_lawful : List Cond := .code yX12_lawful cX12_lawful 1 (some .int) :: ([.fieldLink RX12 132 "BallPotsModel" "thrown" "I", .fieldLink RX12 251 "BallPotsModel" "lawful" "I"] ++ wsX120)
def wsX12_lawfulBut : List Cond := .code yX12_lawfulBut cX12_lawfulBut 4 (some .int) :: ([.fieldLink RX12 248 "BallPotsModel" "draws" "I", .fieldLink RX12 47 "BallPotsModel" "breaks" "[I"] ++ wsX120)
def wsX12_without : List Cond := .code yX12_without cX12_without 2 (some .int) :: ([.fieldLink RX12 132 "BallPotsModel" "thrown" "I", .fieldLink RX12 225 "BallPotsModel" "bars" "I", .methodLink RX12 260 yX12_lawfulBut, .instanceMethod yX12_lawfulBut, .selects RX12 yX12_lawfulBut yX12_lawfulBut, .initialized RX12, .code yX12_lawfulBut cX12_lawfulBut 4 (some .int), .fieldLink RX12 248 "BallPotsModel" "draws" "I", .fieldLink RX12 47 "BallPotsModel" "breaks" "[I"] ++ wsX120)
def wsX12_many : List Cond := .code yX12_many cX12_many 3 (some .int) :: ([])
def wsX12_fewest : List Cond := .code yX12_fewest cX12_fewest 5 (some .int) :: ([.fieldLink RX12 55 "BallPotsModel" "broken" "[Z", .fieldLink RX12 225 "BallPotsModel" "bars" "I", .methodLink RX12 263 yX12_many, .static yX12_many, .initialized RX12, .code yX12_many cX12_many 3 (some .int)] ++ wsX120)
def wsX12_forbids : List Cond := .code yX12_forbids cX12_forbids 2 (some .int) :: ([.fieldLink RX12 132 "BallPotsModel" "thrown" "I", .fieldLink RX12 251 "BallPotsModel" "lawful" "I", .fieldLink RX12 55 "BallPotsModel" "broken" "[Z", .fieldLink RX12 248 "BallPotsModel" "draws" "I", .fieldLink RX12 47 "BallPotsModel" "breaks" "[I", .methodLink RX12 266 yX12_fewest, .instanceMethod yX12_fewest, .selects RX12 yX12_fewest yX12_fewest, .initialized RX12, .code yX12_fewest cX12_fewest 5 (some .int), .fieldLink RX12 225 "BallPotsModel" "bars" "I", .methodLink RX12 263 yX12_many, .static yX12_many, .code yX12_many cX12_many 3 (some .int)] ++ wsX120)
def wsX12_isTeam : List Cond := .code yX12_isTeam cX12_isTeam 2 (some .boolean) :: ([.methodLink RX12 241 yX12_teams, .instanceMethod yX12_teams, .selects RX12 yX12_teams yX12_teams, .initialized RX12, .code yX12_teams cX12_teams 1 (some .int), .fieldLink RX12 185 "BallPotsModel" "groups" "I", .fieldLink RX12 188 "BallPotsModel" "pots" "I"] ++ wsX120)
def wsX12_draw : List Cond := .code yX12_draw cX12_draw 5 (some .int) :: ([.fieldLink RX12 132 "BallPotsModel" "thrown" "I", .fieldLink RX12 251 "BallPotsModel" "lawful" "I", .fieldLink RX12 248 "BallPotsModel" "draws" "I", .fieldLink RX12 47 "BallPotsModel" "breaks" "[I", .fieldLink RX12 51 "BallPotsModel" "groupOf" "[B", .methodLink RX12 269 yX12_isTeam, .instanceMethod yX12_isTeam, .selects RX12 yX12_isTeam yX12_isTeam, .initialized RX12, .code yX12_isTeam cX12_isTeam 2 (some .boolean), .methodLink RX12 241 yX12_teams, .instanceMethod yX12_teams, .selects RX12 yX12_teams yX12_teams, .code yX12_teams cX12_teams 1 (some .int), .fieldLink RX12 185 "BallPotsModel" "groups" "I", .fieldLink RX12 188 "BallPotsModel" "pots" "I"] ++ wsX120)
def wsX12_judge : List Cond := .code yX12_judge cX12_judge 2 (some .int) :: ([.fieldLink RX12 132 "BallPotsModel" "thrown" "I", .fieldLink RX12 248 "BallPotsModel" "draws" "I", .fieldLink RX12 47 "BallPotsModel" "breaks" "[I"] ++ wsX120)
def wsX12_isOnce : List Cond := .code yX12_isOnce cX12_isOnce 4 (some .boolean) :: ([])
def wsX12_order : List Cond := .code yX12_order cX12_order 3 (some .boolean) :: ([.fieldLink RX12 132 "BallPotsModel" "thrown" "I", .fieldLink RX12 188 "BallPotsModel" "pots" "I", .fieldLink RX12 59 "BallPotsModel" "order" "[I", .fieldLink RX12 234 "BallPotsModel" "out" "I", .fieldLink RX12 102 "BallPotsModel" "laid" "I", .methodLink RX12 272 yX12_isOnce, .static yX12_isOnce, .initialized RX12, .code yX12_isOnce cX12_isOnce 4 (some .boolean)] ++ wsX120)
def wsX12_arrange : List Cond := .code yX12_arrange cX12_arrange 3 (some .boolean) :: ([.fieldLink RX12 132 "BallPotsModel" "thrown" "I", .fieldLink RX12 185 "BallPotsModel" "groups" "I", .fieldLink RX12 62 "BallPotsModel" "arranged" "[I", .fieldLink RX12 234 "BallPotsModel" "out" "I", .fieldLink RX12 102 "BallPotsModel" "laid" "I", .methodLink RX12 272 yX12_isOnce, .static yX12_isOnce, .initialized RX12, .code yX12_isOnce cX12_isOnce 4 (some .boolean)] ++ wsX120)
def wsX12_placedIn : List Cond := .code yX12_placedIn cX12_placedIn 4 (some .int) :: ([.fieldLink RX12 65 "BallPotsModel" "ballOf" "[I", .fieldLink RX12 68 "BallPotsModel" "groupGot" "[I"] ++ wsX120)
def wsX12_isAsPlaced : List Cond := .code yX12_isAsPlaced cX12_isAsPlaced 4 (some .boolean) :: ([.fieldLink RX12 51 "BallPotsModel" "groupOf" "[B", .fieldLink RX12 65 "BallPotsModel" "ballOf" "[I", .fieldLink RX12 68 "BallPotsModel" "groupGot" "[I"] ++ wsX120)
def wsX12_shut : List Cond := .code yX12_shut cX12_shut 5 (some .int) :: ([.fieldLink RX12 65 "BallPotsModel" "ballOf" "[I", .fieldLink RX12 185 "BallPotsModel" "groups" "I", .fieldLink RX12 68 "BallPotsModel" "groupGot" "[I", .fieldLink RX12 248 "BallPotsModel" "draws" "I", .fieldLink RX12 47 "BallPotsModel" "breaks" "[I", .fieldLink RX12 51 "BallPotsModel" "groupOf" "[B", .methodLink RX12 275 yX12_isAsPlaced, .instanceMethod yX12_isAsPlaced, .selects RX12 yX12_isAsPlaced yX12_isAsPlaced, .initialized RX12, .code yX12_isAsPlaced cX12_isAsPlaced 4 (some .boolean)] ++ wsX120)
def wsX12_ball_r1 : List Cond := [Cond.fieldLink RX12 132 "BallPotsModel" "thrown" "I", Cond.fieldLink RX12 251 "BallPotsModel" "lawful" "I", Cond.fieldLink RX12 234 "BallPotsModel" "out" "I", Cond.fieldLink RX12 185 "BallPotsModel" "groups" "I", Cond.fieldLink RX12 59 "BallPotsModel" "order" "[I", Cond.fieldLink RX12 62 "BallPotsModel" "arranged" "[I", Cond.fieldLink RX12 65 "BallPotsModel" "ballOf" "[I", Cond.fieldLink RX12 68 "BallPotsModel" "groupGot" "[I", Cond.fieldLink RX12 102 "BallPotsModel" "laid" "I", Cond.methodLink RX12 269 yX12_isTeam, Cond.instanceMethod yX12_isTeam, Cond.selects RX12 yX12_isTeam yX12_isTeam, Cond.initialized RX12, Cond.code yX12_isTeam cX12_isTeam 2 (some .boolean), Cond.methodLink RX12 241 yX12_teams, Cond.instanceMethod yX12_teams, Cond.selects RX12 yX12_teams yX12_teams, Cond.code yX12_teams cX12_teams 1 (some .int), Cond.fieldLink RX12 188 "BallPotsModel" "pots" "I", Cond.methodLink RX12 278 yX12_placedIn, Cond.instanceMethod yX12_placedIn, Cond.selects RX12 yX12_placedIn yX12_placedIn, Cond.code yX12_placedIn cX12_placedIn 4 (some .int), Cond.methodLink RX12 281 yX12_shut]
def wsX12_ball_r2 : List Cond := [Cond.instanceMethod yX12_shut, Cond.selects RX12 yX12_shut yX12_shut, Cond.code yX12_shut cX12_shut 5 (some .int), Cond.fieldLink RX12 248 "BallPotsModel" "draws" "I", Cond.fieldLink RX12 47 "BallPotsModel" "breaks" "[I", Cond.fieldLink RX12 51 "BallPotsModel" "groupOf" "[B", Cond.methodLink RX12 275 yX12_isAsPlaced, Cond.instanceMethod yX12_isAsPlaced, Cond.selects RX12 yX12_isAsPlaced yX12_isAsPlaced, Cond.code yX12_isAsPlaced cX12_isAsPlaced 4 (some .boolean)]
def wsX12_ball : List Cond := .code yX12_ball cX12_ball 3 (some .int) :: ((wsX12_ball_r1 ++ wsX12_ball_r2) ++ wsX120)
def wsX12_whyOf : List Cond := .code yX12_whyOf cX12_whyOf 3 (some .int) :: ([.fieldLink RX12 234 "BallPotsModel" "out" "I", .fieldLink RX12 185 "BallPotsModel" "groups" "I", .fieldLink RX12 68 "BallPotsModel" "groupGot" "[I", .fieldLink RX12 62 "BallPotsModel" "arranged" "[I", .fieldLink RX12 65 "BallPotsModel" "ballOf" "[I", .methodLink RX12 281 yX12_shut, .instanceMethod yX12_shut, .selects RX12 yX12_shut yX12_shut, .initialized RX12, .code yX12_shut cX12_shut 5 (some .int), .fieldLink RX12 248 "BallPotsModel" "draws" "I", .fieldLink RX12 47 "BallPotsModel" "breaks" "[I", .fieldLink RX12 51 "BallPotsModel" "groupOf" "[B", .methodLink RX12 275 yX12_isAsPlaced, .instanceMethod yX12_isAsPlaced, .selects RX12 yX12_isAsPlaced yX12_isAsPlaced, .code yX12_isAsPlaced cX12_isAsPlaced 4 (some .boolean)] ++ wsX120)
def wsX12_why : List Cond := .code yX12_why cX12_why 2 (some .int) :: ([.fieldLink RX12 132 "BallPotsModel" "thrown" "I", .methodLink RX12 285 yX12_whyOf, .instanceMethod yX12_whyOf, .selects RX12 yX12_whyOf yX12_whyOf, .initialized RX12, .code yX12_whyOf cX12_whyOf 3 (some .int), .fieldLink RX12 234 "BallPotsModel" "out" "I", .fieldLink RX12 185 "BallPotsModel" "groups" "I", .fieldLink RX12 68 "BallPotsModel" "groupGot" "[I", .fieldLink RX12 62 "BallPotsModel" "arranged" "[I", .fieldLink RX12 65 "BallPotsModel" "ballOf" "[I", .methodLink RX12 281 yX12_shut, .instanceMethod yX12_shut, .selects RX12 yX12_shut yX12_shut, .code yX12_shut cX12_shut 5 (some .int), .fieldLink RX12 248 "BallPotsModel" "draws" "I", .fieldLink RX12 47 "BallPotsModel" "breaks" "[I", .fieldLink RX12 51 "BallPotsModel" "groupOf" "[B", .methodLink RX12 275 yX12_isAsPlaced, .instanceMethod yX12_isAsPlaced, .selects RX12 yX12_isAsPlaced yX12_isAsPlaced, .code yX12_isAsPlaced cX12_isAsPlaced 4 (some .boolean)] ++ wsX120)
def wsX12_blame_r1 : List Cond := [Cond.fieldLink RX12 132 "BallPotsModel" "thrown" "I", Cond.fieldLink RX12 55 "BallPotsModel" "broken" "[Z", Cond.fieldLink RX12 248 "BallPotsModel" "draws" "I", Cond.fieldLink RX12 51 "BallPotsModel" "groupOf" "[B", Cond.fieldLink RX12 65 "BallPotsModel" "ballOf" "[I", Cond.fieldLink RX12 234 "BallPotsModel" "out" "I", Cond.fieldLink RX12 47 "BallPotsModel" "breaks" "[I", Cond.methodLink RX12 285 yX12_whyOf, Cond.instanceMethod yX12_whyOf, Cond.selects RX12 yX12_whyOf yX12_whyOf, Cond.initialized RX12, Cond.code yX12_whyOf cX12_whyOf 3 (some .int), Cond.fieldLink RX12 185 "BallPotsModel" "groups" "I", Cond.fieldLink RX12 68 "BallPotsModel" "groupGot" "[I", Cond.fieldLink RX12 62 "BallPotsModel" "arranged" "[I", Cond.methodLink RX12 281 yX12_shut, Cond.instanceMethod yX12_shut, Cond.selects RX12 yX12_shut yX12_shut, Cond.code yX12_shut cX12_shut 5 (some .int), Cond.methodLink RX12 275 yX12_isAsPlaced, Cond.instanceMethod yX12_isAsPlaced, Cond.selects RX12 yX12_isAsPlaced yX12_isAsPlaced, Cond.code yX12_isAsPlaced cX12_isAsPlaced 4 (some .boolean), Cond.methodLink RX12 266 yX12_fewest]
def wsX12_blame_r2 : List Cond := [Cond.instanceMethod yX12_fewest, Cond.selects RX12 yX12_fewest yX12_fewest, Cond.code yX12_fewest cX12_fewest 5 (some .int), Cond.fieldLink RX12 225 "BallPotsModel" "bars" "I", Cond.methodLink RX12 263 yX12_many, Cond.static yX12_many, Cond.code yX12_many cX12_many 3 (some .int)]
def wsX12_blame : List Cond := .code yX12_blame cX12_blame 3 (some .int) :: ((wsX12_blame_r1 ++ wsX12_blame_r2) ++ wsX120)
def wsX12_clear : List Cond := .code yX12_clear cX12_clear 2 (some .int) :: ([.fieldLink RX12 132 "BallPotsModel" "thrown" "I", .fieldLink RX12 234 "BallPotsModel" "out" "I", .fieldLink RX12 102 "BallPotsModel" "laid" "I"] ++ wsX120)
def wsX12_undo : List Cond := .code yX12_undo cX12_undo 1 (some .int) :: ([.fieldLink RX12 132 "BallPotsModel" "thrown" "I", .fieldLink RX12 234 "BallPotsModel" "out" "I", .fieldLink RX12 102 "BallPotsModel" "laid" "I"] ++ wsX120)
def wsX12_placed : List Cond := .code yX12_placed cX12_placed 2 (some .int) :: ([.fieldLink RX12 132 "BallPotsModel" "thrown" "I", .fieldLink RX12 234 "BallPotsModel" "out" "I", .methodLink RX12 269 yX12_isTeam, .instanceMethod yX12_isTeam, .selects RX12 yX12_isTeam yX12_isTeam, .initialized RX12, .code yX12_isTeam cX12_isTeam 2 (some .boolean), .methodLink RX12 241 yX12_teams, .instanceMethod yX12_teams, .selects RX12 yX12_teams yX12_teams, .code yX12_teams cX12_teams 1 (some .int), .fieldLink RX12 185 "BallPotsModel" "groups" "I", .fieldLink RX12 188 "BallPotsModel" "pots" "I", .methodLink RX12 278 yX12_placedIn, .instanceMethod yX12_placedIn, .selects RX12 yX12_placedIn yX12_placedIn, .code yX12_placedIn cX12_placedIn 4 (some .int), .fieldLink RX12 65 "BallPotsModel" "ballOf" "[I", .fieldLink RX12 68 "BallPotsModel" "groupGot" "[I"] ++ wsX120)
def wsX12_ends : List Cond := .code yX12_ends cX12_ends 3 (some .int) :: ([.fieldLink RX12 132 "BallPotsModel" "thrown" "I", .fieldLink RX12 248 "BallPotsModel" "draws" "I", .fieldLink RX12 47 "BallPotsModel" "breaks" "[I", .fieldLink RX12 234 "BallPotsModel" "out" "I", .fieldLink RX12 51 "BallPotsModel" "groupOf" "[B", .methodLink RX12 269 yX12_isTeam, .instanceMethod yX12_isTeam, .selects RX12 yX12_isTeam yX12_isTeam, .initialized RX12, .code yX12_isTeam cX12_isTeam 2 (some .boolean), .methodLink RX12 241 yX12_teams, .instanceMethod yX12_teams, .selects RX12 yX12_teams yX12_teams, .code yX12_teams cX12_teams 1 (some .int), .fieldLink RX12 185 "BallPotsModel" "groups" "I", .fieldLink RX12 188 "BallPotsModel" "pots" "I", .methodLink RX12 275 yX12_isAsPlaced, .instanceMethod yX12_isAsPlaced, .selects RX12 yX12_isAsPlaced yX12_isAsPlaced, .code yX12_isAsPlaced cX12_isAsPlaced 4 (some .boolean), .fieldLink RX12 65 "BallPotsModel" "ballOf" "[I", .fieldLink RX12 68 "BallPotsModel" "groupGot" "[I"] ++ wsX120)
def wsX12_turnsAs : List Cond := .code yX12_turnsAs cX12_turnsAs 2 none :: ([.fieldLink RX12 71 "BallPotsModel" "turn" "[I", .fieldLink RX12 59 "BallPotsModel" "order" "[I", .fieldLink RX12 74 "BallPotsModel" "look" "[I", .fieldLink RX12 62 "BallPotsModel" "arranged" "[I"] ++ wsX120)
def wsX12_layMasks : List Cond := .code yX12_layMasks cX12_layMasks 6 none :: ([.fieldLink RX12 77 "BallPotsModel" "level" "[I", .fieldLink RX12 188 "BallPotsModel" "pots" "I", .fieldLink RX12 245 "BallPotsModel" "ranks" "I", .fieldLink RX12 80 "BallPotsModel" "mask" "[I", .fieldLink RX12 248 "BallPotsModel" "draws" "I", .fieldLink RX12 47 "BallPotsModel" "breaks" "[I", .fieldLink RX12 71 "BallPotsModel" "turn" "[I", .fieldLink RX12 87 "BallPotsModel" "indexOf" "[I", .fieldLink RX12 90 "BallPotsModel" "having" "[I", .fieldLink RX12 185 "BallPotsModel" "groups" "I", .fieldLink RX12 44 "BallPotsModel" "row" "[I", .fieldLink RX12 288 "BallPotsModel" "parts" "I", .fieldLink RX12 93 "BallPotsModel" "power" "[I", .methodLink RX12 254 yX12_rankIn, .instanceMethod yX12_rankIn, .selects RX12 yX12_rankIn yX12_rankIn, .initialized RX12, .code yX12_rankIn cX12_rankIn 5 (some .int)] ++ wsX120)
def wsX12_digit : List Cond := .code yX12_digit cX12_digit 3 (some .int) :: ([.fieldLink RX12 93 "BallPotsModel" "power" "[I", .fieldLink RX12 185 "BallPotsModel" "groups" "I"] ++ wsX120)
def wsX12_agreeing : List Cond := .code yX12_agreeing cX12_agreeing 5 (some .int) :: ([.fieldLink RX12 185 "BallPotsModel" "groups" "I", .fieldLink RX12 90 "BallPotsModel" "having" "[I", .methodLink RX12 291 yX12_digit, .instanceMethod yX12_digit, .selects RX12 yX12_digit yX12_digit, .initialized RX12, .code yX12_digit cX12_digit 3 (some .int), .fieldLink RX12 93 "BallPotsModel" "power" "[I"] ++ wsX120)
def wsX12_share : List Cond := .code yX12_share cX12_share 1 (some .int) :: ([])
def wsX12_comes : List Cond := .code yX12_comes cX12_comes 10 none :: ([.fieldLink RX12 185 "BallPotsModel" "groups" "I", .fieldLink RX12 90 "BallPotsModel" "having" "[I", .fieldLink RX12 74 "BallPotsModel" "look" "[I", .fieldLink RX12 96 "BallPotsModel" "part" "[J", .fieldLink RX12 93 "BallPotsModel" "power" "[I", .methodLink RX12 294 yX12_agreeing, .instanceMethod yX12_agreeing, .selects RX12 yX12_agreeing yX12_agreeing, .initialized RX12, .code yX12_agreeing cX12_agreeing 5 (some .int), .methodLink RX12 291 yX12_digit, .instanceMethod yX12_digit, .selects RX12 yX12_digit yX12_digit, .code yX12_digit cX12_digit 3 (some .int), .methodLink RX12 297 yX12_share, .static yX12_share, .code yX12_share cX12_share 1 (some .int)] ++ wsX120)
def wsX12_pot_r1 : List Cond := [Cond.fieldLink RX12 288 "BallPotsModel" "parts" "I", Cond.fieldLink RX12 96 "BallPotsModel" "part" "[J", Cond.fieldLink RX12 83 "BallPotsModel" "ways" "[J", Cond.fieldLink RX12 77 "BallPotsModel" "level" "[I", Cond.fieldLink RX12 185 "BallPotsModel" "groups" "I", Cond.fieldLink RX12 80 "BallPotsModel" "mask" "[I", Cond.fieldLink RX12 245 "BallPotsModel" "ranks" "I", Cond.fieldLink RX12 44 "BallPotsModel" "row" "[I", Cond.fieldLink RX12 93 "BallPotsModel" "power" "[I", Cond.methodLink RX12 291 yX12_digit, Cond.instanceMethod yX12_digit, Cond.selects RX12 yX12_digit yX12_digit, Cond.initialized RX12, Cond.code yX12_digit cX12_digit 3 (some .int), Cond.methodLink RX12 300 yX12_comes, Cond.instanceMethod yX12_comes, Cond.selects RX12 yX12_comes yX12_comes, Cond.code yX12_comes cX12_comes 10 none, Cond.fieldLink RX12 90 "BallPotsModel" "having" "[I", Cond.fieldLink RX12 74 "BallPotsModel" "look" "[I", Cond.methodLink RX12 294 yX12_agreeing, Cond.instanceMethod yX12_agreeing, Cond.selects RX12 yX12_agreeing yX12_agreeing, Cond.code yX12_agreeing cX12_agreeing 5 (some .int)]
def wsX12_pot_r2 : List Cond := [Cond.methodLink RX12 297 yX12_share, Cond.static yX12_share, Cond.code yX12_share cX12_share 1 (some .int)]
def wsX12_pot : List Cond := .code yX12_pot cX12_pot 9 none :: ((wsX12_pot_r1 ++ wsX12_pot_r2) ++ wsX120)
def wsX12_rankOf : List Cond := .code yX12_rankOf cX12_rankOf 4 (some .int) :: ([.fieldLink RX12 245 "BallPotsModel" "ranks" "I", .methodLink RX12 294 yX12_agreeing, .instanceMethod yX12_agreeing, .selects RX12 yX12_agreeing yX12_agreeing, .initialized RX12, .code yX12_agreeing cX12_agreeing 5 (some .int), .fieldLink RX12 185 "BallPotsModel" "groups" "I", .fieldLink RX12 90 "BallPotsModel" "having" "[I", .methodLink RX12 291 yX12_digit, .instanceMethod yX12_digit, .selects RX12 yX12_digit yX12_digit, .code yX12_digit cX12_digit 3 (some .int), .fieldLink RX12 93 "BallPotsModel" "power" "[I"] ++ wsX120)
def wsX12_placedPart : List Cond := .code yX12_placedPart cX12_placedPart 5 (some .int) :: ([.fieldLink RX12 288 "BallPotsModel" "parts" "I", .fieldLink RX12 65 "BallPotsModel" "ballOf" "[I", .fieldLink RX12 185 "BallPotsModel" "groups" "I", .fieldLink RX12 68 "BallPotsModel" "groupGot" "[I", .fieldLink RX12 93 "BallPotsModel" "power" "[I"] ++ wsX120)
def wsX12_layWeights_r1 : List Cond := [Cond.fieldLink RX12 102 "BallPotsModel" "laid" "I", Cond.fieldLink RX12 234 "BallPotsModel" "out" "I", Cond.fieldLink RX12 248 "BallPotsModel" "draws" "I", Cond.fieldLink RX12 99 "BallPotsModel" "weight" "[J", Cond.fieldLink RX12 47 "BallPotsModel" "breaks" "[I", Cond.fieldLink RX12 251 "BallPotsModel" "lawful" "I", Cond.fieldLink RX12 77 "BallPotsModel" "level" "[I", Cond.fieldLink RX12 188 "BallPotsModel" "pots" "I", Cond.fieldLink RX12 83 "BallPotsModel" "ways" "[J", Cond.fieldLink RX12 185 "BallPotsModel" "groups" "I", Cond.fieldLink RX12 245 "BallPotsModel" "ranks" "I", Cond.fieldLink RX12 71 "BallPotsModel" "turn" "[I", Cond.fieldLink RX12 288 "BallPotsModel" "parts" "I", Cond.fieldLink RX12 87 "BallPotsModel" "indexOf" "[I", Cond.methodLink RX12 311 yX12_layMasks, Cond.instanceMethod yX12_layMasks, Cond.selects RX12 yX12_layMasks yX12_layMasks, Cond.initialized RX12, Cond.code yX12_layMasks cX12_layMasks 6 none, Cond.fieldLink RX12 80 "BallPotsModel" "mask" "[I", Cond.fieldLink RX12 90 "BallPotsModel" "having" "[I", Cond.fieldLink RX12 44 "BallPotsModel" "row" "[I", Cond.fieldLink RX12 93 "BallPotsModel" "power" "[I", Cond.methodLink RX12 254 yX12_rankIn]
def wsX12_layWeights_r2 : List Cond := [Cond.instanceMethod yX12_rankIn, Cond.selects RX12 yX12_rankIn yX12_rankIn, Cond.code yX12_rankIn cX12_rankIn 5 (some .int), Cond.methodLink RX12 275 yX12_isAsPlaced, Cond.instanceMethod yX12_isAsPlaced, Cond.selects RX12 yX12_isAsPlaced yX12_isAsPlaced, Cond.code yX12_isAsPlaced cX12_isAsPlaced 4 (some .boolean), Cond.fieldLink RX12 51 "BallPotsModel" "groupOf" "[B", Cond.fieldLink RX12 65 "BallPotsModel" "ballOf" "[I", Cond.fieldLink RX12 68 "BallPotsModel" "groupGot" "[I", Cond.methodLink RX12 314 yX12_placedPart, Cond.instanceMethod yX12_placedPart, Cond.selects RX12 yX12_placedPart yX12_placedPart, Cond.code yX12_placedPart cX12_placedPart 5 (some .int), Cond.methodLink RX12 317 yX12_rankOf, Cond.instanceMethod yX12_rankOf, Cond.selects RX12 yX12_rankOf yX12_rankOf, Cond.code yX12_rankOf cX12_rankOf 4 (some .int), Cond.methodLink RX12 294 yX12_agreeing, Cond.instanceMethod yX12_agreeing, Cond.selects RX12 yX12_agreeing yX12_agreeing, Cond.code yX12_agreeing cX12_agreeing 5 (some .int), Cond.methodLink RX12 291 yX12_digit, Cond.instanceMethod yX12_digit]
def wsX12_layWeights_r3 : List Cond := [Cond.selects RX12 yX12_digit yX12_digit, Cond.code yX12_digit cX12_digit 3 (some .int), Cond.methodLink RX12 320 yX12_pot, Cond.instanceMethod yX12_pot, Cond.selects RX12 yX12_pot yX12_pot, Cond.code yX12_pot cX12_pot 9 none, Cond.fieldLink RX12 96 "BallPotsModel" "part" "[J", Cond.methodLink RX12 300 yX12_comes, Cond.instanceMethod yX12_comes, Cond.selects RX12 yX12_comes yX12_comes, Cond.code yX12_comes cX12_comes 10 none, Cond.fieldLink RX12 74 "BallPotsModel" "look" "[I", Cond.methodLink RX12 297 yX12_share, Cond.static yX12_share, Cond.code yX12_share cX12_share 1 (some .int)]
def wsX12_layWeights : List Cond := .code yX12_layWeights cX12_layWeights 10 none :: ((wsX12_layWeights_r1 ++ (wsX12_layWeights_r2 ++ wsX12_layWeights_r3)) ++ wsX120)
def wsX12_layStage_r1 : List Cond := [Cond.fieldLink RX12 102 "BallPotsModel" "laid" "I", Cond.methodLink RX12 304 yX12_turnsAs, Cond.instanceMethod yX12_turnsAs, Cond.selects RX12 yX12_turnsAs yX12_turnsAs, Cond.initialized RX12, Cond.code yX12_turnsAs cX12_turnsAs 2 none, Cond.fieldLink RX12 71 "BallPotsModel" "turn" "[I", Cond.fieldLink RX12 59 "BallPotsModel" "order" "[I", Cond.fieldLink RX12 74 "BallPotsModel" "look" "[I", Cond.fieldLink RX12 62 "BallPotsModel" "arranged" "[I", Cond.methodLink RX12 307 yX12_layWeights, Cond.instanceMethod yX12_layWeights, Cond.selects RX12 yX12_layWeights yX12_layWeights, Cond.code yX12_layWeights cX12_layWeights 10 none, Cond.fieldLink RX12 234 "BallPotsModel" "out" "I", Cond.fieldLink RX12 248 "BallPotsModel" "draws" "I", Cond.fieldLink RX12 99 "BallPotsModel" "weight" "[J", Cond.fieldLink RX12 47 "BallPotsModel" "breaks" "[I", Cond.fieldLink RX12 251 "BallPotsModel" "lawful" "I", Cond.fieldLink RX12 77 "BallPotsModel" "level" "[I", Cond.fieldLink RX12 188 "BallPotsModel" "pots" "I", Cond.fieldLink RX12 83 "BallPotsModel" "ways" "[J", Cond.fieldLink RX12 185 "BallPotsModel" "groups" "I", Cond.fieldLink RX12 245 "BallPotsModel" "ranks" "I"]
def wsX12_layStage_r2 : List Cond := [Cond.fieldLink RX12 288 "BallPotsModel" "parts" "I", Cond.fieldLink RX12 87 "BallPotsModel" "indexOf" "[I", Cond.methodLink RX12 311 yX12_layMasks, Cond.instanceMethod yX12_layMasks, Cond.selects RX12 yX12_layMasks yX12_layMasks, Cond.code yX12_layMasks cX12_layMasks 6 none, Cond.fieldLink RX12 80 "BallPotsModel" "mask" "[I", Cond.fieldLink RX12 90 "BallPotsModel" "having" "[I", Cond.fieldLink RX12 44 "BallPotsModel" "row" "[I", Cond.fieldLink RX12 93 "BallPotsModel" "power" "[I", Cond.methodLink RX12 254 yX12_rankIn, Cond.instanceMethod yX12_rankIn, Cond.selects RX12 yX12_rankIn yX12_rankIn, Cond.code yX12_rankIn cX12_rankIn 5 (some .int), Cond.methodLink RX12 275 yX12_isAsPlaced, Cond.instanceMethod yX12_isAsPlaced, Cond.selects RX12 yX12_isAsPlaced yX12_isAsPlaced, Cond.code yX12_isAsPlaced cX12_isAsPlaced 4 (some .boolean), Cond.fieldLink RX12 51 "BallPotsModel" "groupOf" "[B", Cond.fieldLink RX12 65 "BallPotsModel" "ballOf" "[I", Cond.fieldLink RX12 68 "BallPotsModel" "groupGot" "[I", Cond.methodLink RX12 314 yX12_placedPart, Cond.instanceMethod yX12_placedPart, Cond.selects RX12 yX12_placedPart yX12_placedPart]
def wsX12_layStage_r3 : List Cond := [Cond.code yX12_placedPart cX12_placedPart 5 (some .int), Cond.methodLink RX12 317 yX12_rankOf, Cond.instanceMethod yX12_rankOf, Cond.selects RX12 yX12_rankOf yX12_rankOf, Cond.code yX12_rankOf cX12_rankOf 4 (some .int), Cond.methodLink RX12 294 yX12_agreeing, Cond.instanceMethod yX12_agreeing, Cond.selects RX12 yX12_agreeing yX12_agreeing, Cond.code yX12_agreeing cX12_agreeing 5 (some .int), Cond.methodLink RX12 291 yX12_digit, Cond.instanceMethod yX12_digit, Cond.selects RX12 yX12_digit yX12_digit, Cond.code yX12_digit cX12_digit 3 (some .int), Cond.methodLink RX12 320 yX12_pot, Cond.instanceMethod yX12_pot, Cond.selects RX12 yX12_pot yX12_pot, Cond.code yX12_pot cX12_pot 9 none, Cond.fieldLink RX12 96 "BallPotsModel" "part" "[J", Cond.methodLink RX12 300 yX12_comes, Cond.instanceMethod yX12_comes, Cond.selects RX12 yX12_comes yX12_comes, Cond.code yX12_comes cX12_comes 10 none, Cond.methodLink RX12 297 yX12_share, Cond.static yX12_share]
def wsX12_layStage_r4 : List Cond := [Cond.code yX12_share cX12_share 1 (some .int)]
def wsX12_layStage : List Cond := .code yX12_layStage cX12_layStage 2 none :: ((wsX12_layStage_r1 ++ (wsX12_layStage_r2 ++ (wsX12_layStage_r3 ++ wsX12_layStage_r4))) ++ wsX120)
def wsX12_allRows : List Cond := .code yX12_allRows cX12_allRows 4 (some .long) :: ([.fieldLink RX12 248 "BallPotsModel" "draws" "I", .fieldLink RX12 99 "BallPotsModel" "weight" "[J"] ++ wsX120)
def wsX12_pairRows : List Cond := .code yX12_pairRows cX12_pairRows 6 (some .long) :: ([.fieldLink RX12 248 "BallPotsModel" "draws" "I", .fieldLink RX12 51 "BallPotsModel" "groupOf" "[B", .fieldLink RX12 99 "BallPotsModel" "weight" "[J"] ++ wsX120)
def wsX12_isWay : List Cond := .code yX12_isWay cX12_isWay 1 (some .boolean) :: ([])
def wsX12_pair_r1 : List Cond := [Cond.fieldLink RX12 132 "BallPotsModel" "thrown" "I", Cond.constantLong RX12 327 (-1), Cond.methodLink RX12 269 yX12_isTeam, Cond.instanceMethod yX12_isTeam, Cond.selects RX12 yX12_isTeam yX12_isTeam, Cond.initialized RX12, Cond.code yX12_isTeam cX12_isTeam 2 (some .boolean), Cond.methodLink RX12 241 yX12_teams, Cond.instanceMethod yX12_teams, Cond.selects RX12 yX12_teams yX12_teams, Cond.code yX12_teams cX12_teams 1 (some .int), Cond.fieldLink RX12 185 "BallPotsModel" "groups" "I", Cond.fieldLink RX12 188 "BallPotsModel" "pots" "I", Cond.methodLink RX12 324 yX12_isWay, Cond.static yX12_isWay, Cond.code yX12_isWay cX12_isWay 1 (some .boolean), Cond.methodLink RX12 329 yX12_layStage, Cond.instanceMethod yX12_layStage, Cond.selects RX12 yX12_layStage yX12_layStage, Cond.code yX12_layStage cX12_layStage 2 none, Cond.fieldLink RX12 102 "BallPotsModel" "laid" "I", Cond.methodLink RX12 304 yX12_turnsAs, Cond.instanceMethod yX12_turnsAs, Cond.selects RX12 yX12_turnsAs yX12_turnsAs]
def wsX12_pair_r2 : List Cond := [Cond.code yX12_turnsAs cX12_turnsAs 2 none, Cond.fieldLink RX12 71 "BallPotsModel" "turn" "[I", Cond.fieldLink RX12 59 "BallPotsModel" "order" "[I", Cond.fieldLink RX12 74 "BallPotsModel" "look" "[I", Cond.fieldLink RX12 62 "BallPotsModel" "arranged" "[I", Cond.methodLink RX12 307 yX12_layWeights, Cond.instanceMethod yX12_layWeights, Cond.selects RX12 yX12_layWeights yX12_layWeights, Cond.code yX12_layWeights cX12_layWeights 10 none, Cond.fieldLink RX12 234 "BallPotsModel" "out" "I", Cond.fieldLink RX12 248 "BallPotsModel" "draws" "I", Cond.fieldLink RX12 99 "BallPotsModel" "weight" "[J", Cond.fieldLink RX12 47 "BallPotsModel" "breaks" "[I", Cond.fieldLink RX12 251 "BallPotsModel" "lawful" "I", Cond.fieldLink RX12 77 "BallPotsModel" "level" "[I", Cond.fieldLink RX12 83 "BallPotsModel" "ways" "[J", Cond.fieldLink RX12 245 "BallPotsModel" "ranks" "I", Cond.fieldLink RX12 288 "BallPotsModel" "parts" "I", Cond.fieldLink RX12 87 "BallPotsModel" "indexOf" "[I", Cond.methodLink RX12 311 yX12_layMasks, Cond.instanceMethod yX12_layMasks, Cond.selects RX12 yX12_layMasks yX12_layMasks, Cond.code yX12_layMasks cX12_layMasks 6 none, Cond.fieldLink RX12 80 "BallPotsModel" "mask" "[I"]
def wsX12_pair_r3 : List Cond := [Cond.fieldLink RX12 90 "BallPotsModel" "having" "[I", Cond.fieldLink RX12 44 "BallPotsModel" "row" "[I", Cond.fieldLink RX12 93 "BallPotsModel" "power" "[I", Cond.methodLink RX12 254 yX12_rankIn, Cond.instanceMethod yX12_rankIn, Cond.selects RX12 yX12_rankIn yX12_rankIn, Cond.code yX12_rankIn cX12_rankIn 5 (some .int), Cond.methodLink RX12 275 yX12_isAsPlaced, Cond.instanceMethod yX12_isAsPlaced, Cond.selects RX12 yX12_isAsPlaced yX12_isAsPlaced, Cond.code yX12_isAsPlaced cX12_isAsPlaced 4 (some .boolean), Cond.fieldLink RX12 51 "BallPotsModel" "groupOf" "[B", Cond.fieldLink RX12 65 "BallPotsModel" "ballOf" "[I", Cond.fieldLink RX12 68 "BallPotsModel" "groupGot" "[I", Cond.methodLink RX12 314 yX12_placedPart, Cond.instanceMethod yX12_placedPart, Cond.selects RX12 yX12_placedPart yX12_placedPart, Cond.code yX12_placedPart cX12_placedPart 5 (some .int), Cond.methodLink RX12 317 yX12_rankOf, Cond.instanceMethod yX12_rankOf, Cond.selects RX12 yX12_rankOf yX12_rankOf, Cond.code yX12_rankOf cX12_rankOf 4 (some .int), Cond.methodLink RX12 294 yX12_agreeing, Cond.instanceMethod yX12_agreeing]
def wsX12_pair_r4 : List Cond := [Cond.selects RX12 yX12_agreeing yX12_agreeing, Cond.code yX12_agreeing cX12_agreeing 5 (some .int), Cond.methodLink RX12 291 yX12_digit, Cond.instanceMethod yX12_digit, Cond.selects RX12 yX12_digit yX12_digit, Cond.code yX12_digit cX12_digit 3 (some .int), Cond.methodLink RX12 320 yX12_pot, Cond.instanceMethod yX12_pot, Cond.selects RX12 yX12_pot yX12_pot, Cond.code yX12_pot cX12_pot 9 none, Cond.fieldLink RX12 96 "BallPotsModel" "part" "[J", Cond.methodLink RX12 300 yX12_comes, Cond.instanceMethod yX12_comes, Cond.selects RX12 yX12_comes yX12_comes, Cond.code yX12_comes cX12_comes 10 none, Cond.methodLink RX12 297 yX12_share, Cond.static yX12_share, Cond.code yX12_share cX12_share 1 (some .int), Cond.methodLink RX12 333 yX12_pairRows, Cond.instanceMethod yX12_pairRows, Cond.selects RX12 yX12_pairRows yX12_pairRows, Cond.code yX12_pairRows cX12_pairRows 6 (some .long)]
def wsX12_pair : List Cond := .code yX12_pair cX12_pair 4 (some .long) :: ((wsX12_pair_r1 ++ (wsX12_pair_r2 ++ (wsX12_pair_r3 ++ wsX12_pair_r4))) ++ wsX120)
def wsX12_place_r1 : List Cond := [Cond.fieldLink RX12 132 "BallPotsModel" "thrown" "I", Cond.fieldLink RX12 185 "BallPotsModel" "groups" "I", Cond.constantLong RX12 327 (-1), Cond.fieldLink RX12 248 "BallPotsModel" "draws" "I", Cond.fieldLink RX12 51 "BallPotsModel" "groupOf" "[B", Cond.fieldLink RX12 99 "BallPotsModel" "weight" "[J", Cond.methodLink RX12 269 yX12_isTeam, Cond.instanceMethod yX12_isTeam, Cond.selects RX12 yX12_isTeam yX12_isTeam, Cond.initialized RX12, Cond.code yX12_isTeam cX12_isTeam 2 (some .boolean), Cond.methodLink RX12 241 yX12_teams, Cond.instanceMethod yX12_teams, Cond.selects RX12 yX12_teams yX12_teams, Cond.code yX12_teams cX12_teams 1 (some .int), Cond.fieldLink RX12 188 "BallPotsModel" "pots" "I", Cond.methodLink RX12 324 yX12_isWay, Cond.static yX12_isWay, Cond.code yX12_isWay cX12_isWay 1 (some .boolean), Cond.methodLink RX12 329 yX12_layStage, Cond.instanceMethod yX12_layStage, Cond.selects RX12 yX12_layStage yX12_layStage, Cond.code yX12_layStage cX12_layStage 2 none, Cond.fieldLink RX12 102 "BallPotsModel" "laid" "I"]
def wsX12_place_r2 : List Cond := [Cond.methodLink RX12 304 yX12_turnsAs, Cond.instanceMethod yX12_turnsAs, Cond.selects RX12 yX12_turnsAs yX12_turnsAs, Cond.code yX12_turnsAs cX12_turnsAs 2 none, Cond.fieldLink RX12 71 "BallPotsModel" "turn" "[I", Cond.fieldLink RX12 59 "BallPotsModel" "order" "[I", Cond.fieldLink RX12 74 "BallPotsModel" "look" "[I", Cond.fieldLink RX12 62 "BallPotsModel" "arranged" "[I", Cond.methodLink RX12 307 yX12_layWeights, Cond.instanceMethod yX12_layWeights, Cond.selects RX12 yX12_layWeights yX12_layWeights, Cond.code yX12_layWeights cX12_layWeights 10 none, Cond.fieldLink RX12 234 "BallPotsModel" "out" "I", Cond.fieldLink RX12 47 "BallPotsModel" "breaks" "[I", Cond.fieldLink RX12 251 "BallPotsModel" "lawful" "I", Cond.fieldLink RX12 77 "BallPotsModel" "level" "[I", Cond.fieldLink RX12 83 "BallPotsModel" "ways" "[J", Cond.fieldLink RX12 245 "BallPotsModel" "ranks" "I", Cond.fieldLink RX12 288 "BallPotsModel" "parts" "I", Cond.fieldLink RX12 87 "BallPotsModel" "indexOf" "[I", Cond.methodLink RX12 311 yX12_layMasks, Cond.instanceMethod yX12_layMasks, Cond.selects RX12 yX12_layMasks yX12_layMasks, Cond.code yX12_layMasks cX12_layMasks 6 none]
def wsX12_place_r3 : List Cond := [Cond.fieldLink RX12 80 "BallPotsModel" "mask" "[I", Cond.fieldLink RX12 90 "BallPotsModel" "having" "[I", Cond.fieldLink RX12 44 "BallPotsModel" "row" "[I", Cond.fieldLink RX12 93 "BallPotsModel" "power" "[I", Cond.methodLink RX12 254 yX12_rankIn, Cond.instanceMethod yX12_rankIn, Cond.selects RX12 yX12_rankIn yX12_rankIn, Cond.code yX12_rankIn cX12_rankIn 5 (some .int), Cond.methodLink RX12 275 yX12_isAsPlaced, Cond.instanceMethod yX12_isAsPlaced, Cond.selects RX12 yX12_isAsPlaced yX12_isAsPlaced, Cond.code yX12_isAsPlaced cX12_isAsPlaced 4 (some .boolean), Cond.fieldLink RX12 65 "BallPotsModel" "ballOf" "[I", Cond.fieldLink RX12 68 "BallPotsModel" "groupGot" "[I", Cond.methodLink RX12 314 yX12_placedPart, Cond.instanceMethod yX12_placedPart, Cond.selects RX12 yX12_placedPart yX12_placedPart, Cond.code yX12_placedPart cX12_placedPart 5 (some .int), Cond.methodLink RX12 317 yX12_rankOf, Cond.instanceMethod yX12_rankOf, Cond.selects RX12 yX12_rankOf yX12_rankOf, Cond.code yX12_rankOf cX12_rankOf 4 (some .int), Cond.methodLink RX12 294 yX12_agreeing, Cond.instanceMethod yX12_agreeing]
def wsX12_place_r4 : List Cond := [Cond.selects RX12 yX12_agreeing yX12_agreeing, Cond.code yX12_agreeing cX12_agreeing 5 (some .int), Cond.methodLink RX12 291 yX12_digit, Cond.instanceMethod yX12_digit, Cond.selects RX12 yX12_digit yX12_digit, Cond.code yX12_digit cX12_digit 3 (some .int), Cond.methodLink RX12 320 yX12_pot, Cond.instanceMethod yX12_pot, Cond.selects RX12 yX12_pot yX12_pot, Cond.code yX12_pot cX12_pot 9 none, Cond.fieldLink RX12 96 "BallPotsModel" "part" "[J", Cond.methodLink RX12 300 yX12_comes, Cond.instanceMethod yX12_comes, Cond.selects RX12 yX12_comes yX12_comes, Cond.code yX12_comes cX12_comes 10 none, Cond.methodLink RX12 297 yX12_share, Cond.static yX12_share, Cond.code yX12_share cX12_share 1 (some .int)]
def wsX12_place : List Cond := .code yX12_place cX12_place 7 (some .long) :: ((wsX12_place_r1 ++ (wsX12_place_r2 ++ (wsX12_place_r3 ++ wsX12_place_r4))) ++ wsX120)
def wsX12_all_r1 : List Cond := [Cond.fieldLink RX12 132 "BallPotsModel" "thrown" "I", Cond.constantLong RX12 327 (-1), Cond.methodLink RX12 324 yX12_isWay, Cond.static yX12_isWay, Cond.initialized RX12, Cond.code yX12_isWay cX12_isWay 1 (some .boolean), Cond.methodLink RX12 329 yX12_layStage, Cond.instanceMethod yX12_layStage, Cond.selects RX12 yX12_layStage yX12_layStage, Cond.code yX12_layStage cX12_layStage 2 none, Cond.fieldLink RX12 102 "BallPotsModel" "laid" "I", Cond.methodLink RX12 304 yX12_turnsAs, Cond.instanceMethod yX12_turnsAs, Cond.selects RX12 yX12_turnsAs yX12_turnsAs, Cond.code yX12_turnsAs cX12_turnsAs 2 none, Cond.fieldLink RX12 71 "BallPotsModel" "turn" "[I", Cond.fieldLink RX12 59 "BallPotsModel" "order" "[I", Cond.fieldLink RX12 74 "BallPotsModel" "look" "[I", Cond.fieldLink RX12 62 "BallPotsModel" "arranged" "[I", Cond.methodLink RX12 307 yX12_layWeights, Cond.instanceMethod yX12_layWeights, Cond.selects RX12 yX12_layWeights yX12_layWeights, Cond.code yX12_layWeights cX12_layWeights 10 none, Cond.fieldLink RX12 234 "BallPotsModel" "out" "I"]
def wsX12_all_r2 : List Cond := [Cond.fieldLink RX12 248 "BallPotsModel" "draws" "I", Cond.fieldLink RX12 99 "BallPotsModel" "weight" "[J", Cond.fieldLink RX12 47 "BallPotsModel" "breaks" "[I", Cond.fieldLink RX12 251 "BallPotsModel" "lawful" "I", Cond.fieldLink RX12 77 "BallPotsModel" "level" "[I", Cond.fieldLink RX12 188 "BallPotsModel" "pots" "I", Cond.fieldLink RX12 83 "BallPotsModel" "ways" "[J", Cond.fieldLink RX12 185 "BallPotsModel" "groups" "I", Cond.fieldLink RX12 245 "BallPotsModel" "ranks" "I", Cond.fieldLink RX12 288 "BallPotsModel" "parts" "I", Cond.fieldLink RX12 87 "BallPotsModel" "indexOf" "[I", Cond.methodLink RX12 311 yX12_layMasks, Cond.instanceMethod yX12_layMasks, Cond.selects RX12 yX12_layMasks yX12_layMasks, Cond.code yX12_layMasks cX12_layMasks 6 none, Cond.fieldLink RX12 80 "BallPotsModel" "mask" "[I", Cond.fieldLink RX12 90 "BallPotsModel" "having" "[I", Cond.fieldLink RX12 44 "BallPotsModel" "row" "[I", Cond.fieldLink RX12 93 "BallPotsModel" "power" "[I", Cond.methodLink RX12 254 yX12_rankIn, Cond.instanceMethod yX12_rankIn, Cond.selects RX12 yX12_rankIn yX12_rankIn, Cond.code yX12_rankIn cX12_rankIn 5 (some .int), Cond.methodLink RX12 275 yX12_isAsPlaced]
def wsX12_all_r3 : List Cond := [Cond.instanceMethod yX12_isAsPlaced, Cond.selects RX12 yX12_isAsPlaced yX12_isAsPlaced, Cond.code yX12_isAsPlaced cX12_isAsPlaced 4 (some .boolean), Cond.fieldLink RX12 51 "BallPotsModel" "groupOf" "[B", Cond.fieldLink RX12 65 "BallPotsModel" "ballOf" "[I", Cond.fieldLink RX12 68 "BallPotsModel" "groupGot" "[I", Cond.methodLink RX12 314 yX12_placedPart, Cond.instanceMethod yX12_placedPart, Cond.selects RX12 yX12_placedPart yX12_placedPart, Cond.code yX12_placedPart cX12_placedPart 5 (some .int), Cond.methodLink RX12 317 yX12_rankOf, Cond.instanceMethod yX12_rankOf, Cond.selects RX12 yX12_rankOf yX12_rankOf, Cond.code yX12_rankOf cX12_rankOf 4 (some .int), Cond.methodLink RX12 294 yX12_agreeing, Cond.instanceMethod yX12_agreeing, Cond.selects RX12 yX12_agreeing yX12_agreeing, Cond.code yX12_agreeing cX12_agreeing 5 (some .int), Cond.methodLink RX12 291 yX12_digit, Cond.instanceMethod yX12_digit, Cond.selects RX12 yX12_digit yX12_digit, Cond.code yX12_digit cX12_digit 3 (some .int), Cond.methodLink RX12 320 yX12_pot, Cond.instanceMethod yX12_pot]
def wsX12_all_r4 : List Cond := [Cond.selects RX12 yX12_pot yX12_pot, Cond.code yX12_pot cX12_pot 9 none, Cond.fieldLink RX12 96 "BallPotsModel" "part" "[J", Cond.methodLink RX12 300 yX12_comes, Cond.instanceMethod yX12_comes, Cond.selects RX12 yX12_comes yX12_comes, Cond.code yX12_comes cX12_comes 10 none, Cond.methodLink RX12 297 yX12_share, Cond.static yX12_share, Cond.code yX12_share cX12_share 1 (some .int), Cond.methodLink RX12 337 yX12_allRows, Cond.instanceMethod yX12_allRows, Cond.selects RX12 yX12_allRows yX12_allRows, Cond.code yX12_allRows cX12_allRows 4 (some .long)]
def wsX12_all : List Cond := .code yX12_all cX12_all 2 (some .long) :: ((wsX12_all_r1 ++ (wsX12_all_r2 ++ (wsX12_all_r3 ++ wsX12_all_r4))) ++ wsX120)
def wsX12_layApart_r1 : List Cond := [Cond.fieldLink RX12 105 "BallPotsModel" "pairs" "[J", Cond.fieldLink RX12 341 "BallPotsModel" "beneath" "J", Cond.fieldLink RX12 345 "BallPotsModel" "apart" "J", Cond.fieldLink RX12 348 "BallPotsModel" "sum" "J", Cond.fieldLink RX12 351 "BallPotsModel" "farOne" "I", Cond.fieldLink RX12 354 "BallPotsModel" "farOther" "I", Cond.fieldLink RX12 357 "BallPotsModel" "far" "J", Cond.fieldLink RX12 185 "BallPotsModel" "groups" "I", Cond.methodLink RX12 307 yX12_layWeights, Cond.instanceMethod yX12_layWeights, Cond.selects RX12 yX12_layWeights yX12_layWeights, Cond.initialized RX12, Cond.code yX12_layWeights cX12_layWeights 10 none, Cond.fieldLink RX12 102 "BallPotsModel" "laid" "I", Cond.fieldLink RX12 234 "BallPotsModel" "out" "I", Cond.fieldLink RX12 248 "BallPotsModel" "draws" "I", Cond.fieldLink RX12 99 "BallPotsModel" "weight" "[J", Cond.fieldLink RX12 47 "BallPotsModel" "breaks" "[I", Cond.fieldLink RX12 251 "BallPotsModel" "lawful" "I", Cond.fieldLink RX12 77 "BallPotsModel" "level" "[I", Cond.fieldLink RX12 188 "BallPotsModel" "pots" "I", Cond.fieldLink RX12 83 "BallPotsModel" "ways" "[J", Cond.fieldLink RX12 245 "BallPotsModel" "ranks" "I", Cond.fieldLink RX12 71 "BallPotsModel" "turn" "[I"]
def wsX12_layApart_r2 : List Cond := [Cond.fieldLink RX12 288 "BallPotsModel" "parts" "I", Cond.fieldLink RX12 87 "BallPotsModel" "indexOf" "[I", Cond.methodLink RX12 311 yX12_layMasks, Cond.instanceMethod yX12_layMasks, Cond.selects RX12 yX12_layMasks yX12_layMasks, Cond.code yX12_layMasks cX12_layMasks 6 none, Cond.fieldLink RX12 80 "BallPotsModel" "mask" "[I", Cond.fieldLink RX12 90 "BallPotsModel" "having" "[I", Cond.fieldLink RX12 44 "BallPotsModel" "row" "[I", Cond.fieldLink RX12 93 "BallPotsModel" "power" "[I", Cond.methodLink RX12 254 yX12_rankIn, Cond.instanceMethod yX12_rankIn, Cond.selects RX12 yX12_rankIn yX12_rankIn, Cond.code yX12_rankIn cX12_rankIn 5 (some .int), Cond.methodLink RX12 275 yX12_isAsPlaced, Cond.instanceMethod yX12_isAsPlaced, Cond.selects RX12 yX12_isAsPlaced yX12_isAsPlaced, Cond.code yX12_isAsPlaced cX12_isAsPlaced 4 (some .boolean), Cond.fieldLink RX12 51 "BallPotsModel" "groupOf" "[B", Cond.fieldLink RX12 65 "BallPotsModel" "ballOf" "[I", Cond.fieldLink RX12 68 "BallPotsModel" "groupGot" "[I", Cond.methodLink RX12 314 yX12_placedPart, Cond.instanceMethod yX12_placedPart, Cond.selects RX12 yX12_placedPart yX12_placedPart]
def wsX12_layApart_r3 : List Cond := [Cond.code yX12_placedPart cX12_placedPart 5 (some .int), Cond.methodLink RX12 317 yX12_rankOf, Cond.instanceMethod yX12_rankOf, Cond.selects RX12 yX12_rankOf yX12_rankOf, Cond.code yX12_rankOf cX12_rankOf 4 (some .int), Cond.methodLink RX12 294 yX12_agreeing, Cond.instanceMethod yX12_agreeing, Cond.selects RX12 yX12_agreeing yX12_agreeing, Cond.code yX12_agreeing cX12_agreeing 5 (some .int), Cond.methodLink RX12 291 yX12_digit, Cond.instanceMethod yX12_digit, Cond.selects RX12 yX12_digit yX12_digit, Cond.code yX12_digit cX12_digit 3 (some .int), Cond.methodLink RX12 320 yX12_pot, Cond.instanceMethod yX12_pot, Cond.selects RX12 yX12_pot yX12_pot, Cond.code yX12_pot cX12_pot 9 none, Cond.fieldLink RX12 96 "BallPotsModel" "part" "[J", Cond.methodLink RX12 300 yX12_comes, Cond.instanceMethod yX12_comes, Cond.selects RX12 yX12_comes yX12_comes, Cond.code yX12_comes cX12_comes 10 none, Cond.fieldLink RX12 74 "BallPotsModel" "look" "[I", Cond.methodLink RX12 297 yX12_share]
def wsX12_layApart_r4 : List Cond := [Cond.static yX12_share, Cond.code yX12_share cX12_share 1 (some .int), Cond.methodLink RX12 337 yX12_allRows, Cond.instanceMethod yX12_allRows, Cond.selects RX12 yX12_allRows yX12_allRows, Cond.code yX12_allRows cX12_allRows 4 (some .long), Cond.methodLink RX12 241 yX12_teams, Cond.instanceMethod yX12_teams, Cond.selects RX12 yX12_teams yX12_teams, Cond.code yX12_teams cX12_teams 1 (some .int), Cond.methodLink RX12 333 yX12_pairRows, Cond.instanceMethod yX12_pairRows, Cond.selects RX12 yX12_pairRows yX12_pairRows, Cond.code yX12_pairRows cX12_pairRows 6 (some .long)]
def wsX12_layApart : List Cond := .code yX12_layApart cX12_layApart 13 none :: ((wsX12_layApart_r1 ++ (wsX12_layApart_r2 ++ (wsX12_layApart_r3 ++ wsX12_layApart_r4))) ++ wsX120)
def wsX12_apart_r1 : List Cond := [Cond.fieldLink RX12 132 "BallPotsModel" "thrown" "I", Cond.fieldLink RX12 251 "BallPotsModel" "lawful" "I", Cond.constantLong RX12 360 (-9223372036854775808), Cond.fieldLink RX12 345 "BallPotsModel" "apart" "J", Cond.fieldLink RX12 348 "BallPotsModel" "sum" "J", Cond.fieldLink RX12 351 "BallPotsModel" "farOne" "I", Cond.fieldLink RX12 354 "BallPotsModel" "farOther" "I", Cond.fieldLink RX12 357 "BallPotsModel" "far" "J", Cond.fieldLink RX12 341 "BallPotsModel" "beneath" "J", Cond.methodLink RX12 324 yX12_isWay, Cond.static yX12_isWay, Cond.initialized RX12, Cond.code yX12_isWay cX12_isWay 1 (some .boolean), Cond.methodLink RX12 237 yX12_isIn, Cond.static yX12_isIn, Cond.code yX12_isIn cX12_isIn 3 (some .boolean), Cond.methodLink RX12 304 yX12_turnsAs, Cond.instanceMethod yX12_turnsAs, Cond.selects RX12 yX12_turnsAs yX12_turnsAs, Cond.code yX12_turnsAs cX12_turnsAs 2 none, Cond.fieldLink RX12 71 "BallPotsModel" "turn" "[I", Cond.fieldLink RX12 59 "BallPotsModel" "order" "[I", Cond.fieldLink RX12 74 "BallPotsModel" "look" "[I", Cond.fieldLink RX12 62 "BallPotsModel" "arranged" "[I"]
def wsX12_apart_r2 : List Cond := [Cond.methodLink RX12 362 yX12_layApart, Cond.instanceMethod yX12_layApart, Cond.selects RX12 yX12_layApart yX12_layApart, Cond.code yX12_layApart cX12_layApart 13 none, Cond.fieldLink RX12 105 "BallPotsModel" "pairs" "[J", Cond.fieldLink RX12 185 "BallPotsModel" "groups" "I", Cond.methodLink RX12 307 yX12_layWeights, Cond.instanceMethod yX12_layWeights, Cond.selects RX12 yX12_layWeights yX12_layWeights, Cond.code yX12_layWeights cX12_layWeights 10 none, Cond.fieldLink RX12 102 "BallPotsModel" "laid" "I", Cond.fieldLink RX12 234 "BallPotsModel" "out" "I", Cond.fieldLink RX12 248 "BallPotsModel" "draws" "I", Cond.fieldLink RX12 99 "BallPotsModel" "weight" "[J", Cond.fieldLink RX12 47 "BallPotsModel" "breaks" "[I", Cond.fieldLink RX12 77 "BallPotsModel" "level" "[I", Cond.fieldLink RX12 188 "BallPotsModel" "pots" "I", Cond.fieldLink RX12 83 "BallPotsModel" "ways" "[J", Cond.fieldLink RX12 245 "BallPotsModel" "ranks" "I", Cond.fieldLink RX12 288 "BallPotsModel" "parts" "I", Cond.fieldLink RX12 87 "BallPotsModel" "indexOf" "[I", Cond.methodLink RX12 311 yX12_layMasks, Cond.instanceMethod yX12_layMasks, Cond.selects RX12 yX12_layMasks yX12_layMasks]
def wsX12_apart_r3 : List Cond := [Cond.code yX12_layMasks cX12_layMasks 6 none, Cond.fieldLink RX12 80 "BallPotsModel" "mask" "[I", Cond.fieldLink RX12 90 "BallPotsModel" "having" "[I", Cond.fieldLink RX12 44 "BallPotsModel" "row" "[I", Cond.fieldLink RX12 93 "BallPotsModel" "power" "[I", Cond.methodLink RX12 254 yX12_rankIn, Cond.instanceMethod yX12_rankIn, Cond.selects RX12 yX12_rankIn yX12_rankIn, Cond.code yX12_rankIn cX12_rankIn 5 (some .int), Cond.methodLink RX12 275 yX12_isAsPlaced, Cond.instanceMethod yX12_isAsPlaced, Cond.selects RX12 yX12_isAsPlaced yX12_isAsPlaced, Cond.code yX12_isAsPlaced cX12_isAsPlaced 4 (some .boolean), Cond.fieldLink RX12 51 "BallPotsModel" "groupOf" "[B", Cond.fieldLink RX12 65 "BallPotsModel" "ballOf" "[I", Cond.fieldLink RX12 68 "BallPotsModel" "groupGot" "[I", Cond.methodLink RX12 314 yX12_placedPart, Cond.instanceMethod yX12_placedPart, Cond.selects RX12 yX12_placedPart yX12_placedPart, Cond.code yX12_placedPart cX12_placedPart 5 (some .int), Cond.methodLink RX12 317 yX12_rankOf, Cond.instanceMethod yX12_rankOf, Cond.selects RX12 yX12_rankOf yX12_rankOf, Cond.code yX12_rankOf cX12_rankOf 4 (some .int)]
def wsX12_apart_r4 : List Cond := [Cond.methodLink RX12 294 yX12_agreeing, Cond.instanceMethod yX12_agreeing, Cond.selects RX12 yX12_agreeing yX12_agreeing, Cond.code yX12_agreeing cX12_agreeing 5 (some .int), Cond.methodLink RX12 291 yX12_digit, Cond.instanceMethod yX12_digit, Cond.selects RX12 yX12_digit yX12_digit, Cond.code yX12_digit cX12_digit 3 (some .int), Cond.methodLink RX12 320 yX12_pot, Cond.instanceMethod yX12_pot, Cond.selects RX12 yX12_pot yX12_pot, Cond.code yX12_pot cX12_pot 9 none, Cond.fieldLink RX12 96 "BallPotsModel" "part" "[J", Cond.methodLink RX12 300 yX12_comes, Cond.instanceMethod yX12_comes, Cond.selects RX12 yX12_comes yX12_comes, Cond.code yX12_comes cX12_comes 10 none, Cond.methodLink RX12 297 yX12_share, Cond.static yX12_share, Cond.code yX12_share cX12_share 1 (some .int), Cond.methodLink RX12 337 yX12_allRows, Cond.instanceMethod yX12_allRows, Cond.selects RX12 yX12_allRows yX12_allRows, Cond.code yX12_allRows cX12_allRows 4 (some .long)]
def wsX12_apart_r5 : List Cond := [Cond.methodLink RX12 241 yX12_teams, Cond.instanceMethod yX12_teams, Cond.selects RX12 yX12_teams yX12_teams, Cond.code yX12_teams cX12_teams 1 (some .int), Cond.methodLink RX12 333 yX12_pairRows, Cond.instanceMethod yX12_pairRows, Cond.selects RX12 yX12_pairRows yX12_pairRows, Cond.code yX12_pairRows cX12_pairRows 6 (some .long)]
def wsX12_apart : List Cond := .code yX12_apart cX12_apart 4 (some .long) :: ((wsX12_apart_r1 ++ (wsX12_apart_r2 ++ (wsX12_apart_r3 ++ (wsX12_apart_r4 ++ wsX12_apart_r5)))) ++ wsX120)
def wsX12_nearest_r1 : List Cond := [Cond.fieldLink RX12 132 "BallPotsModel" "thrown" "I", Cond.fieldLink RX12 251 "BallPotsModel" "lawful" "I", Cond.fieldLink RX12 188 "BallPotsModel" "pots" "I", Cond.fieldLink RX12 185 "BallPotsModel" "groups" "I", Cond.fieldLink RX12 71 "BallPotsModel" "turn" "[I", Cond.fieldLink RX12 74 "BallPotsModel" "look" "[I", Cond.fieldLink RX12 345 "BallPotsModel" "apart" "J", Cond.methodLink RX12 237 yX12_isIn, Cond.static yX12_isIn, Cond.initialized RX12, Cond.code yX12_isIn cX12_isIn 3 (some .boolean), Cond.methodLink RX12 304 yX12_turnsAs, Cond.instanceMethod yX12_turnsAs, Cond.selects RX12 yX12_turnsAs yX12_turnsAs, Cond.code yX12_turnsAs cX12_turnsAs 2 none, Cond.fieldLink RX12 59 "BallPotsModel" "order" "[I", Cond.fieldLink RX12 62 "BallPotsModel" "arranged" "[I", Cond.methodLink RX12 272 yX12_isOnce, Cond.static yX12_isOnce, Cond.code yX12_isOnce cX12_isOnce 4 (some .boolean), Cond.methodLink RX12 362 yX12_layApart, Cond.instanceMethod yX12_layApart, Cond.selects RX12 yX12_layApart yX12_layApart, Cond.code yX12_layApart cX12_layApart 13 none]
def wsX12_nearest_r2 : List Cond := [Cond.fieldLink RX12 105 "BallPotsModel" "pairs" "[J", Cond.fieldLink RX12 341 "BallPotsModel" "beneath" "J", Cond.fieldLink RX12 348 "BallPotsModel" "sum" "J", Cond.fieldLink RX12 351 "BallPotsModel" "farOne" "I", Cond.fieldLink RX12 354 "BallPotsModel" "farOther" "I", Cond.fieldLink RX12 357 "BallPotsModel" "far" "J", Cond.methodLink RX12 307 yX12_layWeights, Cond.instanceMethod yX12_layWeights, Cond.selects RX12 yX12_layWeights yX12_layWeights, Cond.code yX12_layWeights cX12_layWeights 10 none, Cond.fieldLink RX12 102 "BallPotsModel" "laid" "I", Cond.fieldLink RX12 234 "BallPotsModel" "out" "I", Cond.fieldLink RX12 248 "BallPotsModel" "draws" "I", Cond.fieldLink RX12 99 "BallPotsModel" "weight" "[J", Cond.fieldLink RX12 47 "BallPotsModel" "breaks" "[I", Cond.fieldLink RX12 77 "BallPotsModel" "level" "[I", Cond.fieldLink RX12 83 "BallPotsModel" "ways" "[J", Cond.fieldLink RX12 245 "BallPotsModel" "ranks" "I", Cond.fieldLink RX12 288 "BallPotsModel" "parts" "I", Cond.fieldLink RX12 87 "BallPotsModel" "indexOf" "[I", Cond.methodLink RX12 311 yX12_layMasks, Cond.instanceMethod yX12_layMasks, Cond.selects RX12 yX12_layMasks yX12_layMasks, Cond.code yX12_layMasks cX12_layMasks 6 none]
def wsX12_nearest_r3 : List Cond := [Cond.fieldLink RX12 80 "BallPotsModel" "mask" "[I", Cond.fieldLink RX12 90 "BallPotsModel" "having" "[I", Cond.fieldLink RX12 44 "BallPotsModel" "row" "[I", Cond.fieldLink RX12 93 "BallPotsModel" "power" "[I", Cond.methodLink RX12 254 yX12_rankIn, Cond.instanceMethod yX12_rankIn, Cond.selects RX12 yX12_rankIn yX12_rankIn, Cond.code yX12_rankIn cX12_rankIn 5 (some .int), Cond.methodLink RX12 275 yX12_isAsPlaced, Cond.instanceMethod yX12_isAsPlaced, Cond.selects RX12 yX12_isAsPlaced yX12_isAsPlaced, Cond.code yX12_isAsPlaced cX12_isAsPlaced 4 (some .boolean), Cond.fieldLink RX12 51 "BallPotsModel" "groupOf" "[B", Cond.fieldLink RX12 65 "BallPotsModel" "ballOf" "[I", Cond.fieldLink RX12 68 "BallPotsModel" "groupGot" "[I", Cond.methodLink RX12 314 yX12_placedPart, Cond.instanceMethod yX12_placedPart, Cond.selects RX12 yX12_placedPart yX12_placedPart, Cond.code yX12_placedPart cX12_placedPart 5 (some .int), Cond.methodLink RX12 317 yX12_rankOf, Cond.instanceMethod yX12_rankOf, Cond.selects RX12 yX12_rankOf yX12_rankOf, Cond.code yX12_rankOf cX12_rankOf 4 (some .int), Cond.methodLink RX12 294 yX12_agreeing]
def wsX12_nearest_r4 : List Cond := [Cond.instanceMethod yX12_agreeing, Cond.selects RX12 yX12_agreeing yX12_agreeing, Cond.code yX12_agreeing cX12_agreeing 5 (some .int), Cond.methodLink RX12 291 yX12_digit, Cond.instanceMethod yX12_digit, Cond.selects RX12 yX12_digit yX12_digit, Cond.code yX12_digit cX12_digit 3 (some .int), Cond.methodLink RX12 320 yX12_pot, Cond.instanceMethod yX12_pot, Cond.selects RX12 yX12_pot yX12_pot, Cond.code yX12_pot cX12_pot 9 none, Cond.fieldLink RX12 96 "BallPotsModel" "part" "[J", Cond.methodLink RX12 300 yX12_comes, Cond.instanceMethod yX12_comes, Cond.selects RX12 yX12_comes yX12_comes, Cond.code yX12_comes cX12_comes 10 none, Cond.methodLink RX12 297 yX12_share, Cond.static yX12_share, Cond.code yX12_share cX12_share 1 (some .int), Cond.methodLink RX12 337 yX12_allRows, Cond.instanceMethod yX12_allRows, Cond.selects RX12 yX12_allRows yX12_allRows, Cond.code yX12_allRows cX12_allRows 4 (some .long), Cond.methodLink RX12 241 yX12_teams]
def wsX12_nearest_r5 : List Cond := [Cond.instanceMethod yX12_teams, Cond.selects RX12 yX12_teams yX12_teams, Cond.code yX12_teams cX12_teams 1 (some .int), Cond.methodLink RX12 333 yX12_pairRows, Cond.instanceMethod yX12_pairRows, Cond.selects RX12 yX12_pairRows yX12_pairRows, Cond.code yX12_pairRows cX12_pairRows 6 (some .long)]
def wsX12_nearest : List Cond := .code yX12_nearest cX12_nearest 9 (some .int) :: ((wsX12_nearest_r1 ++ (wsX12_nearest_r2 ++ (wsX12_nearest_r3 ++ (wsX12_nearest_r4 ++ wsX12_nearest_r5)))) ++ wsX120)
def wsX12_putOne : List Cond := .code yX12_putOne cX12_putOne 6 (some .int) :: ([.fieldLink RX12 90 "BallPotsModel" "having" "[I", .fieldLink RX12 74 "BallPotsModel" "look" "[I", .fieldLink RX12 185 "BallPotsModel" "groups" "I", .fieldLink RX12 93 "BallPotsModel" "power" "[I", .methodLink RX12 294 yX12_agreeing, .instanceMethod yX12_agreeing, .selects RX12 yX12_agreeing yX12_agreeing, .initialized RX12, .code yX12_agreeing cX12_agreeing 5 (some .int), .methodLink RX12 291 yX12_digit, .instanceMethod yX12_digit, .selects RX12 yX12_digit yX12_digit, .code yX12_digit cX12_digit 3 (some .int)] ++ wsX120)
def wsX12_put_r1 : List Cond := [Cond.fieldLink RX12 288 "BallPotsModel" "parts" "I", Cond.fieldLink RX12 185 "BallPotsModel" "groups" "I", Cond.fieldLink RX12 44 "BallPotsModel" "row" "[I", Cond.fieldLink RX12 80 "BallPotsModel" "mask" "[I", Cond.fieldLink RX12 77 "BallPotsModel" "level" "[I", Cond.methodLink RX12 366 yX12_putOne, Cond.instanceMethod yX12_putOne, Cond.selects RX12 yX12_putOne yX12_putOne, Cond.initialized RX12, Cond.code yX12_putOne cX12_putOne 6 (some .int), Cond.fieldLink RX12 90 "BallPotsModel" "having" "[I", Cond.fieldLink RX12 74 "BallPotsModel" "look" "[I", Cond.fieldLink RX12 93 "BallPotsModel" "power" "[I", Cond.methodLink RX12 294 yX12_agreeing, Cond.instanceMethod yX12_agreeing, Cond.selects RX12 yX12_agreeing yX12_agreeing, Cond.code yX12_agreeing cX12_agreeing 5 (some .int), Cond.methodLink RX12 291 yX12_digit, Cond.instanceMethod yX12_digit, Cond.selects RX12 yX12_digit yX12_digit, Cond.code yX12_digit cX12_digit 3 (some .int), Cond.methodLink RX12 317 yX12_rankOf, Cond.instanceMethod yX12_rankOf, Cond.selects RX12 yX12_rankOf yX12_rankOf]
def wsX12_put_r2 : List Cond := [Cond.code yX12_rankOf cX12_rankOf 4 (some .int), Cond.fieldLink RX12 245 "BallPotsModel" "ranks" "I"]
def wsX12_put : List Cond := .code yX12_put cX12_put 6 (some .int) :: ((wsX12_put_r1 ++ wsX12_put_r2) ++ wsX120)
def wsX12_leads_r1 : List Cond := [Cond.fieldLink RX12 132 "BallPotsModel" "thrown" "I", Cond.fieldLink RX12 248 "BallPotsModel" "draws" "I", Cond.fieldLink RX12 251 "BallPotsModel" "lawful" "I", Cond.fieldLink RX12 188 "BallPotsModel" "pots" "I", Cond.fieldLink RX12 245 "BallPotsModel" "ranks" "I", Cond.fieldLink RX12 47 "BallPotsModel" "breaks" "[I", Cond.fieldLink RX12 87 "BallPotsModel" "indexOf" "[I", Cond.methodLink RX12 304 yX12_turnsAs, Cond.instanceMethod yX12_turnsAs, Cond.selects RX12 yX12_turnsAs yX12_turnsAs, Cond.initialized RX12, Cond.code yX12_turnsAs cX12_turnsAs 2 none, Cond.fieldLink RX12 71 "BallPotsModel" "turn" "[I", Cond.fieldLink RX12 59 "BallPotsModel" "order" "[I", Cond.fieldLink RX12 74 "BallPotsModel" "look" "[I", Cond.fieldLink RX12 62 "BallPotsModel" "arranged" "[I", Cond.methodLink RX12 311 yX12_layMasks, Cond.instanceMethod yX12_layMasks, Cond.selects RX12 yX12_layMasks yX12_layMasks, Cond.code yX12_layMasks cX12_layMasks 6 none, Cond.fieldLink RX12 77 "BallPotsModel" "level" "[I", Cond.fieldLink RX12 80 "BallPotsModel" "mask" "[I", Cond.fieldLink RX12 90 "BallPotsModel" "having" "[I", Cond.fieldLink RX12 185 "BallPotsModel" "groups" "I"]
def wsX12_leads_r2 : List Cond := [Cond.fieldLink RX12 44 "BallPotsModel" "row" "[I", Cond.fieldLink RX12 288 "BallPotsModel" "parts" "I", Cond.fieldLink RX12 93 "BallPotsModel" "power" "[I", Cond.methodLink RX12 254 yX12_rankIn, Cond.instanceMethod yX12_rankIn, Cond.selects RX12 yX12_rankIn yX12_rankIn, Cond.code yX12_rankIn cX12_rankIn 5 (some .int), Cond.methodLink RX12 369 yX12_put, Cond.instanceMethod yX12_put, Cond.selects RX12 yX12_put yX12_put, Cond.code yX12_put cX12_put 6 (some .int), Cond.methodLink RX12 366 yX12_putOne, Cond.instanceMethod yX12_putOne, Cond.selects RX12 yX12_putOne yX12_putOne, Cond.code yX12_putOne cX12_putOne 6 (some .int), Cond.methodLink RX12 294 yX12_agreeing, Cond.instanceMethod yX12_agreeing, Cond.selects RX12 yX12_agreeing yX12_agreeing, Cond.code yX12_agreeing cX12_agreeing 5 (some .int), Cond.methodLink RX12 291 yX12_digit, Cond.instanceMethod yX12_digit, Cond.selects RX12 yX12_digit yX12_digit, Cond.code yX12_digit cX12_digit 3 (some .int), Cond.methodLink RX12 317 yX12_rankOf]
def wsX12_leads_r3 : List Cond := [Cond.instanceMethod yX12_rankOf, Cond.selects RX12 yX12_rankOf yX12_rankOf, Cond.code yX12_rankOf cX12_rankOf 4 (some .int)]
def wsX12_leads : List Cond := .code yX12_leads cX12_leads 6 (some .int) :: ((wsX12_leads_r1 ++ (wsX12_leads_r2 ++ wsX12_leads_r3)) ++ wsX120)
def wsX12_moves : List Cond := .code yX12_moves cX12_moves 9 (some .long) :: ([.fieldLink RX12 132 "BallPotsModel" "thrown" "I", .fieldLink RX12 225 "BallPotsModel" "bars" "I", .constantLong RX12 360 (-9223372036854775808), .fieldLink RX12 248 "BallPotsModel" "draws" "I", .fieldLink RX12 51 "BallPotsModel" "groupOf" "[B", .fieldLink RX12 47 "BallPotsModel" "breaks" "[I", .fieldLink RX12 251 "BallPotsModel" "lawful" "I", .methodLink RX12 269 yX12_isTeam, .instanceMethod yX12_isTeam, .selects RX12 yX12_isTeam yX12_isTeam, .initialized RX12, .code yX12_isTeam cX12_isTeam 2 (some .boolean), .methodLink RX12 241 yX12_teams, .instanceMethod yX12_teams, .selects RX12 yX12_teams yX12_teams, .code yX12_teams cX12_teams 1 (some .int), .fieldLink RX12 185 "BallPotsModel" "groups" "I", .fieldLink RX12 188 "BallPotsModel" "pots" "I", .methodLink RX12 260 yX12_lawfulBut, .instanceMethod yX12_lawfulBut, .selects RX12 yX12_lawfulBut yX12_lawfulBut, .code yX12_lawfulBut cX12_lawfulBut 4 (some .int)] ++ wsX120)
def wsX12_isEven : List Cond := .code yX12_isEven cX12_isEven 7 (some .boolean) :: ([.fieldLink RX12 102 "BallPotsModel" "laid" "I", .fieldLink RX12 248 "BallPotsModel" "draws" "I", .fieldLink RX12 99 "BallPotsModel" "weight" "[J", .fieldLink RX12 47 "BallPotsModel" "breaks" "[I", .fieldLink RX12 185 "BallPotsModel" "groups" "I", .constantLong RX12 372 (100), .methodLink RX12 260 yX12_lawfulBut, .instanceMethod yX12_lawfulBut, .selects RX12 yX12_lawfulBut yX12_lawfulBut, .initialized RX12, .code yX12_lawfulBut cX12_lawfulBut 4 (some .int), .methodLink RX12 241 yX12_teams, .instanceMethod yX12_teams, .selects RX12 yX12_teams yX12_teams, .code yX12_teams cX12_teams 1 (some .int), .fieldLink RX12 188 "BallPotsModel" "pots" "I", .methodLink RX12 333 yX12_pairRows, .instanceMethod yX12_pairRows, .selects RX12 yX12_pairRows yX12_pairRows, .code yX12_pairRows cX12_pairRows 6 (some .long), .fieldLink RX12 51 "BallPotsModel" "groupOf" "[B"] ++ wsX120)
def wsX12_leave_r1 : List Cond := [Cond.fieldLink RX12 132 "BallPotsModel" "thrown" "I", Cond.fieldLink RX12 225 "BallPotsModel" "bars" "I", Cond.methodLink RX12 237 yX12_isIn, Cond.static yX12_isIn, Cond.initialized RX12, Cond.code yX12_isIn cX12_isIn 3 (some .boolean), Cond.methodLink RX12 263 yX12_many, Cond.static yX12_many, Cond.code yX12_many cX12_many 3 (some .int), Cond.methodLink RX12 374 yX12_isEven, Cond.instanceMethod yX12_isEven, Cond.selects RX12 yX12_isEven yX12_isEven, Cond.code yX12_isEven cX12_isEven 7 (some .boolean), Cond.fieldLink RX12 102 "BallPotsModel" "laid" "I", Cond.fieldLink RX12 248 "BallPotsModel" "draws" "I", Cond.fieldLink RX12 99 "BallPotsModel" "weight" "[J", Cond.fieldLink RX12 47 "BallPotsModel" "breaks" "[I", Cond.fieldLink RX12 185 "BallPotsModel" "groups" "I", Cond.constantLong RX12 372 (100), Cond.methodLink RX12 260 yX12_lawfulBut, Cond.instanceMethod yX12_lawfulBut, Cond.selects RX12 yX12_lawfulBut yX12_lawfulBut, Cond.code yX12_lawfulBut cX12_lawfulBut 4 (some .int), Cond.methodLink RX12 241 yX12_teams]
def wsX12_leave_r2 : List Cond := [Cond.instanceMethod yX12_teams, Cond.selects RX12 yX12_teams yX12_teams, Cond.code yX12_teams cX12_teams 1 (some .int), Cond.fieldLink RX12 188 "BallPotsModel" "pots" "I", Cond.methodLink RX12 333 yX12_pairRows, Cond.instanceMethod yX12_pairRows, Cond.selects RX12 yX12_pairRows yX12_pairRows, Cond.code yX12_pairRows cX12_pairRows 6 (some .long), Cond.fieldLink RX12 51 "BallPotsModel" "groupOf" "[B"]
def wsX12_leave : List Cond := .code yX12_leave cX12_leave 4 (some .int) :: ((wsX12_leave_r1 ++ wsX12_leave_r2) ++ wsX120)
def wsX12_laySwaps_r1 : List Cond := [Cond.fieldLink RX12 188 "BallPotsModel" "pots" "I", Cond.fieldLink RX12 114 "BallPotsModel" "step" "[I", Cond.fieldLink RX12 245 "BallPotsModel" "ranks" "I", Cond.fieldLink RX12 185 "BallPotsModel" "groups" "I", Cond.fieldLink RX12 44 "BallPotsModel" "row" "[I", Cond.fieldLink RX12 93 "BallPotsModel" "power" "[I", Cond.fieldLink RX12 117 "BallPotsModel" "turned" "[I", Cond.methodLink RX12 304 yX12_turnsAs, Cond.instanceMethod yX12_turnsAs, Cond.selects RX12 yX12_turnsAs yX12_turnsAs, Cond.initialized RX12, Cond.code yX12_turnsAs cX12_turnsAs 2 none, Cond.fieldLink RX12 71 "BallPotsModel" "turn" "[I", Cond.fieldLink RX12 59 "BallPotsModel" "order" "[I", Cond.fieldLink RX12 74 "BallPotsModel" "look" "[I", Cond.fieldLink RX12 62 "BallPotsModel" "arranged" "[I", Cond.methodLink RX12 311 yX12_layMasks, Cond.instanceMethod yX12_layMasks, Cond.selects RX12 yX12_layMasks yX12_layMasks, Cond.code yX12_layMasks cX12_layMasks 6 none, Cond.fieldLink RX12 77 "BallPotsModel" "level" "[I", Cond.fieldLink RX12 80 "BallPotsModel" "mask" "[I", Cond.fieldLink RX12 248 "BallPotsModel" "draws" "I", Cond.fieldLink RX12 47 "BallPotsModel" "breaks" "[I"]
def wsX12_laySwaps_r2 : List Cond := [Cond.fieldLink RX12 87 "BallPotsModel" "indexOf" "[I", Cond.fieldLink RX12 90 "BallPotsModel" "having" "[I", Cond.fieldLink RX12 288 "BallPotsModel" "parts" "I", Cond.methodLink RX12 254 yX12_rankIn, Cond.instanceMethod yX12_rankIn, Cond.selects RX12 yX12_rankIn yX12_rankIn, Cond.code yX12_rankIn cX12_rankIn 5 (some .int), Cond.methodLink RX12 317 yX12_rankOf, Cond.instanceMethod yX12_rankOf, Cond.selects RX12 yX12_rankOf yX12_rankOf, Cond.code yX12_rankOf cX12_rankOf 4 (some .int), Cond.methodLink RX12 294 yX12_agreeing, Cond.instanceMethod yX12_agreeing, Cond.selects RX12 yX12_agreeing yX12_agreeing, Cond.code yX12_agreeing cX12_agreeing 5 (some .int), Cond.methodLink RX12 291 yX12_digit, Cond.instanceMethod yX12_digit, Cond.selects RX12 yX12_digit yX12_digit, Cond.code yX12_digit cX12_digit 3 (some .int)]
def wsX12_laySwaps : List Cond := .code yX12_laySwaps cX12_laySwaps 8 none :: ((wsX12_laySwaps_r1 ++ wsX12_laySwaps_r2) ++ wsX120)
def wsX12_swapped : List Cond := .code yX12_swapped cX12_swapped 6 (some .int) :: ([.fieldLink RX12 114 "BallPotsModel" "step" "[I", .fieldLink RX12 245 "BallPotsModel" "ranks" "I", .fieldLink RX12 117 "BallPotsModel" "turned" "[I"] ++ wsX120)
def wsX12_fills : List Cond := .code yX12_fills cX12_fills 10 (some .int) :: ([.fieldLink RX12 108 "BallPotsModel" "partOf" "[I", .fieldLink RX12 111 "BallPotsModel" "queue" "[I", .fieldLink RX12 188 "BallPotsModel" "pots" "I", .fieldLink RX12 185 "BallPotsModel" "groups" "I", .fieldLink RX12 47 "BallPotsModel" "breaks" "[I", .methodLink RX12 383 yX12_swapped, .instanceMethod yX12_swapped, .selects RX12 yX12_swapped yX12_swapped, .initialized RX12, .code yX12_swapped cX12_swapped 6 (some .int), .fieldLink RX12 114 "BallPotsModel" "step" "[I", .fieldLink RX12 245 "BallPotsModel" "ranks" "I", .fieldLink RX12 117 "BallPotsModel" "turned" "[I"] ++ wsX120)
def wsX12_parts_r1 : List Cond := [Cond.fieldLink RX12 132 "BallPotsModel" "thrown" "I", Cond.fieldLink RX12 248 "BallPotsModel" "draws" "I", Cond.fieldLink RX12 108 "BallPotsModel" "partOf" "[I", Cond.fieldLink RX12 47 "BallPotsModel" "breaks" "[I", Cond.methodLink RX12 237 yX12_isIn, Cond.static yX12_isIn, Cond.initialized RX12, Cond.code yX12_isIn cX12_isIn 3 (some .boolean), Cond.methodLink RX12 377 yX12_laySwaps, Cond.instanceMethod yX12_laySwaps, Cond.selects RX12 yX12_laySwaps yX12_laySwaps, Cond.code yX12_laySwaps cX12_laySwaps 8 none, Cond.fieldLink RX12 188 "BallPotsModel" "pots" "I", Cond.fieldLink RX12 114 "BallPotsModel" "step" "[I", Cond.fieldLink RX12 245 "BallPotsModel" "ranks" "I", Cond.fieldLink RX12 185 "BallPotsModel" "groups" "I", Cond.fieldLink RX12 44 "BallPotsModel" "row" "[I", Cond.fieldLink RX12 93 "BallPotsModel" "power" "[I", Cond.fieldLink RX12 117 "BallPotsModel" "turned" "[I", Cond.methodLink RX12 304 yX12_turnsAs, Cond.instanceMethod yX12_turnsAs, Cond.selects RX12 yX12_turnsAs yX12_turnsAs, Cond.code yX12_turnsAs cX12_turnsAs 2 none, Cond.fieldLink RX12 71 "BallPotsModel" "turn" "[I"]
def wsX12_parts_r2 : List Cond := [Cond.fieldLink RX12 59 "BallPotsModel" "order" "[I", Cond.fieldLink RX12 74 "BallPotsModel" "look" "[I", Cond.fieldLink RX12 62 "BallPotsModel" "arranged" "[I", Cond.methodLink RX12 311 yX12_layMasks, Cond.instanceMethod yX12_layMasks, Cond.selects RX12 yX12_layMasks yX12_layMasks, Cond.code yX12_layMasks cX12_layMasks 6 none, Cond.fieldLink RX12 77 "BallPotsModel" "level" "[I", Cond.fieldLink RX12 80 "BallPotsModel" "mask" "[I", Cond.fieldLink RX12 87 "BallPotsModel" "indexOf" "[I", Cond.fieldLink RX12 90 "BallPotsModel" "having" "[I", Cond.fieldLink RX12 288 "BallPotsModel" "parts" "I", Cond.methodLink RX12 254 yX12_rankIn, Cond.instanceMethod yX12_rankIn, Cond.selects RX12 yX12_rankIn yX12_rankIn, Cond.code yX12_rankIn cX12_rankIn 5 (some .int), Cond.methodLink RX12 317 yX12_rankOf, Cond.instanceMethod yX12_rankOf, Cond.selects RX12 yX12_rankOf yX12_rankOf, Cond.code yX12_rankOf cX12_rankOf 4 (some .int), Cond.methodLink RX12 294 yX12_agreeing, Cond.instanceMethod yX12_agreeing, Cond.selects RX12 yX12_agreeing yX12_agreeing, Cond.code yX12_agreeing cX12_agreeing 5 (some .int)]
def wsX12_parts_r3 : List Cond := [Cond.methodLink RX12 291 yX12_digit, Cond.instanceMethod yX12_digit, Cond.selects RX12 yX12_digit yX12_digit, Cond.code yX12_digit cX12_digit 3 (some .int), Cond.methodLink RX12 380 yX12_fills, Cond.instanceMethod yX12_fills, Cond.selects RX12 yX12_fills yX12_fills, Cond.code yX12_fills cX12_fills 10 (some .int), Cond.fieldLink RX12 111 "BallPotsModel" "queue" "[I", Cond.methodLink RX12 383 yX12_swapped, Cond.instanceMethod yX12_swapped, Cond.selects RX12 yX12_swapped yX12_swapped, Cond.code yX12_swapped cX12_swapped 6 (some .int)]
def wsX12_parts : List Cond := .code yX12_parts cX12_parts 7 (some .int) :: ((wsX12_parts_r1 ++ (wsX12_parts_r2 ++ wsX12_parts_r3)) ++ wsX120)
def wsX12_mixesOne : List Cond := .code yX12_mixesOne cX12_mixesOne 6 none :: ([.fieldLink RX12 188 "BallPotsModel" "pots" "I", .fieldLink RX12 185 "BallPotsModel" "groups" "I", .fieldLink RX12 123 "BallPotsModel" "then" "[I", .fieldLink RX12 47 "BallPotsModel" "breaks" "[I", .fieldLink RX12 120 "BallPotsModel" "rows" "[I", .methodLink RX12 383 yX12_swapped, .instanceMethod yX12_swapped, .selects RX12 yX12_swapped yX12_swapped, .initialized RX12, .code yX12_swapped cX12_swapped 6 (some .int), .fieldLink RX12 114 "BallPotsModel" "step" "[I", .fieldLink RX12 245 "BallPotsModel" "ranks" "I", .fieldLink RX12 117 "BallPotsModel" "turned" "[I"] ++ wsX120)
def wsX12_mixes_r1 : List Cond := [Cond.fieldLink RX12 47 "BallPotsModel" "breaks" "[I", Cond.fieldLink RX12 248 "BallPotsModel" "draws" "I", Cond.fieldLink RX12 120 "BallPotsModel" "rows" "[I", Cond.fieldLink RX12 387 "BallPotsModel" "rowsInAll" "J", Cond.fieldLink RX12 123 "BallPotsModel" "then" "[I", Cond.fieldLink RX12 188 "BallPotsModel" "pots" "I", Cond.fieldLink RX12 185 "BallPotsModel" "groups" "I", Cond.methodLink RX12 377 yX12_laySwaps, Cond.instanceMethod yX12_laySwaps, Cond.selects RX12 yX12_laySwaps yX12_laySwaps, Cond.initialized RX12, Cond.code yX12_laySwaps cX12_laySwaps 8 none, Cond.fieldLink RX12 114 "BallPotsModel" "step" "[I", Cond.fieldLink RX12 245 "BallPotsModel" "ranks" "I", Cond.fieldLink RX12 44 "BallPotsModel" "row" "[I", Cond.fieldLink RX12 93 "BallPotsModel" "power" "[I", Cond.fieldLink RX12 117 "BallPotsModel" "turned" "[I", Cond.methodLink RX12 304 yX12_turnsAs, Cond.instanceMethod yX12_turnsAs, Cond.selects RX12 yX12_turnsAs yX12_turnsAs, Cond.code yX12_turnsAs cX12_turnsAs 2 none, Cond.fieldLink RX12 71 "BallPotsModel" "turn" "[I", Cond.fieldLink RX12 59 "BallPotsModel" "order" "[I", Cond.fieldLink RX12 74 "BallPotsModel" "look" "[I"]
def wsX12_mixes_r2 : List Cond := [Cond.fieldLink RX12 62 "BallPotsModel" "arranged" "[I", Cond.methodLink RX12 311 yX12_layMasks, Cond.instanceMethod yX12_layMasks, Cond.selects RX12 yX12_layMasks yX12_layMasks, Cond.code yX12_layMasks cX12_layMasks 6 none, Cond.fieldLink RX12 77 "BallPotsModel" "level" "[I", Cond.fieldLink RX12 80 "BallPotsModel" "mask" "[I", Cond.fieldLink RX12 87 "BallPotsModel" "indexOf" "[I", Cond.fieldLink RX12 90 "BallPotsModel" "having" "[I", Cond.fieldLink RX12 288 "BallPotsModel" "parts" "I", Cond.methodLink RX12 254 yX12_rankIn, Cond.instanceMethod yX12_rankIn, Cond.selects RX12 yX12_rankIn yX12_rankIn, Cond.code yX12_rankIn cX12_rankIn 5 (some .int), Cond.methodLink RX12 317 yX12_rankOf, Cond.instanceMethod yX12_rankOf, Cond.selects RX12 yX12_rankOf yX12_rankOf, Cond.code yX12_rankOf cX12_rankOf 4 (some .int), Cond.methodLink RX12 294 yX12_agreeing, Cond.instanceMethod yX12_agreeing, Cond.selects RX12 yX12_agreeing yX12_agreeing, Cond.code yX12_agreeing cX12_agreeing 5 (some .int), Cond.methodLink RX12 291 yX12_digit, Cond.instanceMethod yX12_digit]
def wsX12_mixes_r3 : List Cond := [Cond.selects RX12 yX12_digit yX12_digit, Cond.code yX12_digit cX12_digit 3 (some .int), Cond.methodLink RX12 390 yX12_mixesOne, Cond.instanceMethod yX12_mixesOne, Cond.selects RX12 yX12_mixesOne yX12_mixesOne, Cond.code yX12_mixesOne cX12_mixesOne 6 none, Cond.methodLink RX12 383 yX12_swapped, Cond.instanceMethod yX12_swapped, Cond.selects RX12 yX12_swapped yX12_swapped, Cond.code yX12_swapped cX12_swapped 6 (some .int)]
def wsX12_mixes : List Cond := .code yX12_mixes cX12_mixes 5 none :: ((wsX12_mixes_r1 ++ (wsX12_mixes_r2 ++ wsX12_mixes_r3)) ++ wsX120)
def wsX12_mix_r1 : List Cond := [Cond.fieldLink RX12 132 "BallPotsModel" "thrown" "I", Cond.fieldLink RX12 248 "BallPotsModel" "draws" "I", Cond.fieldLink RX12 251 "BallPotsModel" "lawful" "I", Cond.fieldLink RX12 120 "BallPotsModel" "rows" "[I", Cond.methodLink RX12 237 yX12_isIn, Cond.static yX12_isIn, Cond.initialized RX12, Cond.code yX12_isIn cX12_isIn 3 (some .boolean), Cond.methodLink RX12 393 yX12_mixes, Cond.instanceMethod yX12_mixes, Cond.selects RX12 yX12_mixes yX12_mixes, Cond.code yX12_mixes cX12_mixes 5 none, Cond.fieldLink RX12 47 "BallPotsModel" "breaks" "[I", Cond.fieldLink RX12 387 "BallPotsModel" "rowsInAll" "J", Cond.fieldLink RX12 123 "BallPotsModel" "then" "[I", Cond.fieldLink RX12 188 "BallPotsModel" "pots" "I", Cond.fieldLink RX12 185 "BallPotsModel" "groups" "I", Cond.methodLink RX12 377 yX12_laySwaps, Cond.instanceMethod yX12_laySwaps, Cond.selects RX12 yX12_laySwaps yX12_laySwaps, Cond.code yX12_laySwaps cX12_laySwaps 8 none, Cond.fieldLink RX12 114 "BallPotsModel" "step" "[I", Cond.fieldLink RX12 245 "BallPotsModel" "ranks" "I", Cond.fieldLink RX12 44 "BallPotsModel" "row" "[I"]
def wsX12_mix_r2 : List Cond := [Cond.fieldLink RX12 93 "BallPotsModel" "power" "[I", Cond.fieldLink RX12 117 "BallPotsModel" "turned" "[I", Cond.methodLink RX12 304 yX12_turnsAs, Cond.instanceMethod yX12_turnsAs, Cond.selects RX12 yX12_turnsAs yX12_turnsAs, Cond.code yX12_turnsAs cX12_turnsAs 2 none, Cond.fieldLink RX12 71 "BallPotsModel" "turn" "[I", Cond.fieldLink RX12 59 "BallPotsModel" "order" "[I", Cond.fieldLink RX12 74 "BallPotsModel" "look" "[I", Cond.fieldLink RX12 62 "BallPotsModel" "arranged" "[I", Cond.methodLink RX12 311 yX12_layMasks, Cond.instanceMethod yX12_layMasks, Cond.selects RX12 yX12_layMasks yX12_layMasks, Cond.code yX12_layMasks cX12_layMasks 6 none, Cond.fieldLink RX12 77 "BallPotsModel" "level" "[I", Cond.fieldLink RX12 80 "BallPotsModel" "mask" "[I", Cond.fieldLink RX12 87 "BallPotsModel" "indexOf" "[I", Cond.fieldLink RX12 90 "BallPotsModel" "having" "[I", Cond.fieldLink RX12 288 "BallPotsModel" "parts" "I", Cond.methodLink RX12 254 yX12_rankIn, Cond.instanceMethod yX12_rankIn, Cond.selects RX12 yX12_rankIn yX12_rankIn, Cond.code yX12_rankIn cX12_rankIn 5 (some .int), Cond.methodLink RX12 317 yX12_rankOf]
def wsX12_mix_r3 : List Cond := [Cond.instanceMethod yX12_rankOf, Cond.selects RX12 yX12_rankOf yX12_rankOf, Cond.code yX12_rankOf cX12_rankOf 4 (some .int), Cond.methodLink RX12 294 yX12_agreeing, Cond.instanceMethod yX12_agreeing, Cond.selects RX12 yX12_agreeing yX12_agreeing, Cond.code yX12_agreeing cX12_agreeing 5 (some .int), Cond.methodLink RX12 291 yX12_digit, Cond.instanceMethod yX12_digit, Cond.selects RX12 yX12_digit yX12_digit, Cond.code yX12_digit cX12_digit 3 (some .int), Cond.methodLink RX12 390 yX12_mixesOne, Cond.instanceMethod yX12_mixesOne, Cond.selects RX12 yX12_mixesOne yX12_mixesOne, Cond.code yX12_mixesOne cX12_mixesOne 6 none, Cond.methodLink RX12 383 yX12_swapped, Cond.instanceMethod yX12_swapped, Cond.selects RX12 yX12_swapped yX12_swapped, Cond.code yX12_swapped cX12_swapped 6 (some .int)]
def wsX12_mix : List Cond := .code yX12_mix cX12_mix 3 (some .int) :: ((wsX12_mix_r1 ++ (wsX12_mix_r2 ++ wsX12_mix_r3)) ++ wsX120)
def wsX12_mixed_r1 : List Cond := [Cond.fieldLink RX12 132 "BallPotsModel" "thrown" "I", Cond.fieldLink RX12 251 "BallPotsModel" "lawful" "I", Cond.constantLong RX12 327 (-1), Cond.fieldLink RX12 387 "BallPotsModel" "rowsInAll" "J", Cond.fieldLink RX12 248 "BallPotsModel" "draws" "I", Cond.fieldLink RX12 47 "BallPotsModel" "breaks" "[I", Cond.fieldLink RX12 120 "BallPotsModel" "rows" "[I", Cond.methodLink RX12 237 yX12_isIn, Cond.static yX12_isIn, Cond.initialized RX12, Cond.code yX12_isIn cX12_isIn 3 (some .boolean), Cond.methodLink RX12 393 yX12_mixes, Cond.instanceMethod yX12_mixes, Cond.selects RX12 yX12_mixes yX12_mixes, Cond.code yX12_mixes cX12_mixes 5 none, Cond.fieldLink RX12 123 "BallPotsModel" "then" "[I", Cond.fieldLink RX12 188 "BallPotsModel" "pots" "I", Cond.fieldLink RX12 185 "BallPotsModel" "groups" "I", Cond.methodLink RX12 377 yX12_laySwaps, Cond.instanceMethod yX12_laySwaps, Cond.selects RX12 yX12_laySwaps yX12_laySwaps, Cond.code yX12_laySwaps cX12_laySwaps 8 none, Cond.fieldLink RX12 114 "BallPotsModel" "step" "[I", Cond.fieldLink RX12 245 "BallPotsModel" "ranks" "I"]
def wsX12_mixed_r2 : List Cond := [Cond.fieldLink RX12 44 "BallPotsModel" "row" "[I", Cond.fieldLink RX12 93 "BallPotsModel" "power" "[I", Cond.fieldLink RX12 117 "BallPotsModel" "turned" "[I", Cond.methodLink RX12 304 yX12_turnsAs, Cond.instanceMethod yX12_turnsAs, Cond.selects RX12 yX12_turnsAs yX12_turnsAs, Cond.code yX12_turnsAs cX12_turnsAs 2 none, Cond.fieldLink RX12 71 "BallPotsModel" "turn" "[I", Cond.fieldLink RX12 59 "BallPotsModel" "order" "[I", Cond.fieldLink RX12 74 "BallPotsModel" "look" "[I", Cond.fieldLink RX12 62 "BallPotsModel" "arranged" "[I", Cond.methodLink RX12 311 yX12_layMasks, Cond.instanceMethod yX12_layMasks, Cond.selects RX12 yX12_layMasks yX12_layMasks, Cond.code yX12_layMasks cX12_layMasks 6 none, Cond.fieldLink RX12 77 "BallPotsModel" "level" "[I", Cond.fieldLink RX12 80 "BallPotsModel" "mask" "[I", Cond.fieldLink RX12 87 "BallPotsModel" "indexOf" "[I", Cond.fieldLink RX12 90 "BallPotsModel" "having" "[I", Cond.fieldLink RX12 288 "BallPotsModel" "parts" "I", Cond.methodLink RX12 254 yX12_rankIn, Cond.instanceMethod yX12_rankIn, Cond.selects RX12 yX12_rankIn yX12_rankIn, Cond.code yX12_rankIn cX12_rankIn 5 (some .int)]
def wsX12_mixed_r3 : List Cond := [Cond.methodLink RX12 317 yX12_rankOf, Cond.instanceMethod yX12_rankOf, Cond.selects RX12 yX12_rankOf yX12_rankOf, Cond.code yX12_rankOf cX12_rankOf 4 (some .int), Cond.methodLink RX12 294 yX12_agreeing, Cond.instanceMethod yX12_agreeing, Cond.selects RX12 yX12_agreeing yX12_agreeing, Cond.code yX12_agreeing cX12_agreeing 5 (some .int), Cond.methodLink RX12 291 yX12_digit, Cond.instanceMethod yX12_digit, Cond.selects RX12 yX12_digit yX12_digit, Cond.code yX12_digit cX12_digit 3 (some .int), Cond.methodLink RX12 390 yX12_mixesOne, Cond.instanceMethod yX12_mixesOne, Cond.selects RX12 yX12_mixesOne yX12_mixesOne, Cond.code yX12_mixesOne cX12_mixesOne 6 none, Cond.methodLink RX12 383 yX12_swapped, Cond.instanceMethod yX12_swapped, Cond.selects RX12 yX12_swapped yX12_swapped, Cond.code yX12_swapped cX12_swapped 6 (some .int)]
def wsX12_mixed : List Cond := .code yX12_mixed cX12_mixed 8 (some .long) :: ((wsX12_mixed_r1 ++ (wsX12_mixed_r2 ++ wsX12_mixed_r3)) ++ wsX120)
def wsX12_comesNext : List Cond := .code yX12_comesNext cX12_comesNext 2 (some .long) :: ([.constantLong RX12 396 (1103515245), .constantLong RX12 398 (12345), .constantLong RX12 400 (2147483647)])
def wsX12_run_r1 : List Cond := [Cond.fieldLink RX12 132 "BallPotsModel" "thrown" "I", Cond.fieldLink RX12 251 "BallPotsModel" "lawful" "I", Cond.fieldLink RX12 71 "BallPotsModel" "turn" "[I", Cond.fieldLink RX12 74 "BallPotsModel" "look" "[I", Cond.fieldLink RX12 188 "BallPotsModel" "pots" "I", Cond.fieldLink RX12 288 "BallPotsModel" "parts" "I", Cond.fieldLink RX12 185 "BallPotsModel" "groups" "I", Cond.constantLong RX12 406 (65536), Cond.fieldLink RX12 80 "BallPotsModel" "mask" "[I", Cond.fieldLink RX12 77 "BallPotsModel" "level" "[I", Cond.fieldLink RX12 245 "BallPotsModel" "ranks" "I", Cond.methodLink RX12 269 yX12_isTeam, Cond.instanceMethod yX12_isTeam, Cond.selects RX12 yX12_isTeam yX12_isTeam, Cond.initialized RX12, Cond.code yX12_isTeam cX12_isTeam 2 (some .boolean), Cond.methodLink RX12 241 yX12_teams, Cond.instanceMethod yX12_teams, Cond.selects RX12 yX12_teams yX12_teams, Cond.code yX12_teams cX12_teams 1 (some .int), Cond.methodLink RX12 311 yX12_layMasks, Cond.instanceMethod yX12_layMasks, Cond.selects RX12 yX12_layMasks yX12_layMasks, Cond.code yX12_layMasks cX12_layMasks 6 none]
def wsX12_run_r2 : List Cond := [Cond.fieldLink RX12 248 "BallPotsModel" "draws" "I", Cond.fieldLink RX12 47 "BallPotsModel" "breaks" "[I", Cond.fieldLink RX12 87 "BallPotsModel" "indexOf" "[I", Cond.fieldLink RX12 90 "BallPotsModel" "having" "[I", Cond.fieldLink RX12 44 "BallPotsModel" "row" "[I", Cond.fieldLink RX12 93 "BallPotsModel" "power" "[I", Cond.methodLink RX12 254 yX12_rankIn, Cond.instanceMethod yX12_rankIn, Cond.selects RX12 yX12_rankIn yX12_rankIn, Cond.code yX12_rankIn cX12_rankIn 5 (some .int), Cond.methodLink RX12 402 yX12_comesNext, Cond.static yX12_comesNext, Cond.code yX12_comesNext cX12_comesNext 2 (some .long), Cond.constantLong RX12 396 (1103515245), Cond.constantLong RX12 398 (12345), Cond.constantLong RX12 400 (2147483647), Cond.methodLink RX12 291 yX12_digit, Cond.instanceMethod yX12_digit, Cond.selects RX12 yX12_digit yX12_digit, Cond.code yX12_digit cX12_digit 3 (some .int), Cond.methodLink RX12 366 yX12_putOne, Cond.instanceMethod yX12_putOne, Cond.selects RX12 yX12_putOne yX12_putOne, Cond.code yX12_putOne cX12_putOne 6 (some .int)]
def wsX12_run_r3 : List Cond := [Cond.methodLink RX12 294 yX12_agreeing, Cond.instanceMethod yX12_agreeing, Cond.selects RX12 yX12_agreeing yX12_agreeing, Cond.code yX12_agreeing cX12_agreeing 5 (some .int), Cond.methodLink RX12 317 yX12_rankOf, Cond.instanceMethod yX12_rankOf, Cond.selects RX12 yX12_rankOf yX12_rankOf, Cond.code yX12_rankOf cX12_rankOf 4 (some .int)]
def wsX12_run : List Cond := .code yX12_run cX12_run 11 (some .int) :: ((wsX12_run_r1 ++ (wsX12_run_r2 ++ wsX12_run_r3)) ++ wsX120)
def wsX12_evenly : List Cond := .code yX12_evenly cX12_evenly 8 (some .int) :: ([.fieldLink RX12 132 "BallPotsModel" "thrown" "I", .fieldLink RX12 251 "BallPotsModel" "lawful" "I", .constantLong RX12 408 (2147483648), .methodLink RX12 237 yX12_isIn, .static yX12_isIn, .initialized RX12, .code yX12_isIn cX12_isIn 3 (some .boolean), .methodLink RX12 402 yX12_comesNext, .static yX12_comesNext, .code yX12_comesNext cX12_comesNext 2 (some .long), .constantLong RX12 396 (1103515245), .constantLong RX12 398 (12345), .constantLong RX12 400 (2147483647)] ++ wsX120)
def wsX12_fails : List Cond := .code yX12_fails cX12_fails 2 (some .int) :: ([.fieldLink RX12 132 "BallPotsModel" "thrown" "I"] ++ wsX120)
def wsX12_look : List Cond := .code yX12_look cX12_look 5 (some .int) :: ([.fieldLink RX12 132 "BallPotsModel" "thrown" "I", .fieldLink RX12 222 "BallPotsModel" "marks" "I", .fieldLink RX12 26 "BallPotsModel" "marked" "[I", .fieldLink RX12 185 "BallPotsModel" "groups" "I", .methodLink RX12 269 yX12_isTeam, .instanceMethod yX12_isTeam, .selects RX12 yX12_isTeam yX12_isTeam, .initialized RX12, .code yX12_isTeam cX12_isTeam 2 (some .boolean), .methodLink RX12 241 yX12_teams, .instanceMethod yX12_teams, .selects RX12 yX12_teams yX12_teams, .code yX12_teams cX12_teams 1 (some .int), .fieldLink RX12 188 "BallPotsModel" "pots" "I", .methodLink RX12 410 yX12_fails, .instanceMethod yX12_fails, .selects RX12 yX12_fails yX12_fails, .code yX12_fails cX12_fails 2 (some .int), .methodLink RX12 237 yX12_isIn, .static yX12_isIn, .code yX12_isIn cX12_isIn 3 (some .boolean)] ++ wsX120)
def wsX12_count : List Cond := .code yX12_count cX12_count 2 (some .int) :: ([.fieldLink RX12 132 "BallPotsModel" "thrown" "I", .fieldLink RX12 185 "BallPotsModel" "groups" "I", .fieldLink RX12 188 "BallPotsModel" "pots" "I", .fieldLink RX12 222 "BallPotsModel" "marks" "I", .fieldLink RX12 225 "BallPotsModel" "bars" "I", .fieldLink RX12 234 "BallPotsModel" "out" "I", .fieldLink RX12 248 "BallPotsModel" "draws" "I", .methodLink RX12 241 yX12_teams, .instanceMethod yX12_teams, .selects RX12 yX12_teams yX12_teams, .initialized RX12, .code yX12_teams cX12_teams 1 (some .int)] ++ wsX120)
theorem dX12_feed_0 : decode cX12_feed 0 = .ok (.aload_n 0, 1) := by decide +kernel
theorem dX12_feed_1 : decode cX12_feed 1 = .ok (.iconst 0, 1) := by decide +kernel
theorem dX12_feed_2 : decode cX12_feed 2 = .ok (.putfield 132, 3) := by decide +kernel
theorem dX12_feed_5 : decode cX12_feed 5 = .ok (.aload_n 0, 1) := by decide +kernel
theorem dX12_feed_6 : decode cX12_feed 6 = .ok (.getfield 135, 3) := by decide +kernel
theorem dX12_feed_9 : decode cX12_feed 9 = .ok (.bipush 20, 2) := by decide +kernel
theorem dX12_feed_11 : decode cX12_feed 11 = .ok (.iadd, 1) := by decide +kernel
theorem dX12_feed_12 : decode cX12_feed 12 = .ok (.sipush 400, 3) := by decide +kernel
theorem dX12_feed_15 : decode cX12_feed 15 = .ok (.if_icmp .le 5, 3) := by decide +kernel
theorem dX12_feed_18 : decode cX12_feed 18 = .ok (.iconst (-1), 1) := by decide +kernel
theorem dX12_feed_19 : decode cX12_feed 19 = .ok (.ireturn, 1) := by decide +kernel
theorem dX12_feed_20 : decode cX12_feed 20 = .ok (.iconst 0, 1) := by decide +kernel
theorem dX12_feed_21 : decode cX12_feed 21 = .ok (.istore 6, 2) := by decide +kernel
theorem dX12_feed_23 : decode cX12_feed 23 = .ok (.iload 6, 2) := by decide +kernel
theorem dX12_feed_25 : decode cX12_feed 25 = .ok (.bipush 20, 2) := by decide +kernel
theorem dX12_feed_27 : decode cX12_feed 27 = .ok (.if_icmp .ge 86, 3) := by decide +kernel
theorem dX12_feed_30 : decode cX12_feed 30 = .ok (.iload 6, 2) := by decide +kernel
theorem dX12_feed_32 : decode cX12_feed 32 = .ok (.iconst 4, 1) := by decide +kernel
theorem dX12_feed_33 : decode cX12_feed 33 = .ok (.if_icmp .ge 7, 3) := by decide +kernel
theorem dX12_feed_36 : decode cX12_feed 36 = .ok (.iload_n 1, 1) := by decide +kernel
theorem dX12_feed_37 : decode cX12_feed 37 = .ok (.goto 39, 3) := by decide +kernel
theorem dX12_feed_40 : decode cX12_feed 40 = .ok (.iload 6, 2) := by decide +kernel
theorem dX12_feed_42 : decode cX12_feed 42 = .ok (.bipush 8, 2) := by decide +kernel
theorem dX12_feed_44 : decode cX12_feed 44 = .ok (.if_icmp .ge 7, 3) := by decide +kernel
theorem dX12_feed_47 : decode cX12_feed 47 = .ok (.iload_n 2, 1) := by decide +kernel
theorem dX12_feed_48 : decode cX12_feed 48 = .ok (.goto 28, 3) := by decide +kernel
theorem dX12_feed_51 : decode cX12_feed 51 = .ok (.iload 6, 2) := by decide +kernel
theorem dX12_feed_53 : decode cX12_feed 53 = .ok (.bipush 12, 2) := by decide +kernel
theorem dX12_feed_55 : decode cX12_feed 55 = .ok (.if_icmp .ge 7, 3) := by decide +kernel
theorem dX12_feed_58 : decode cX12_feed 58 = .ok (.iload_n 3, 1) := by decide +kernel
theorem dX12_feed_59 : decode cX12_feed 59 = .ok (.goto 17, 3) := by decide +kernel
theorem dX12_feed_62 : decode cX12_feed 62 = .ok (.iload 6, 2) := by decide +kernel
theorem dX12_feed_64 : decode cX12_feed 64 = .ok (.bipush 16, 2) := by decide +kernel
theorem dX12_feed_66 : decode cX12_feed 66 = .ok (.if_icmp .ge 8, 3) := by decide +kernel
theorem dX12_feed_69 : decode cX12_feed 69 = .ok (.iload 4, 2) := by decide +kernel
theorem dX12_feed_71 : decode cX12_feed 71 = .ok (.goto 5, 3) := by decide +kernel
theorem dX12_feed_74 : decode cX12_feed 74 = .ok (.iload 5, 2) := by decide +kernel
theorem dX12_feed_76 : decode cX12_feed 76 = .ok (.istore 7, 2) := by decide +kernel
theorem dX12_feed_78 : decode cX12_feed 78 = .ok (.aload_n 0, 1) := by decide +kernel
theorem dX12_feed_79 : decode cX12_feed 79 = .ok (.getfield 7, 3) := by decide +kernel
theorem dX12_feed_82 : decode cX12_feed 82 = .ok (.aload_n 0, 1) := by decide +kernel
theorem dX12_feed_83 : decode cX12_feed 83 = .ok (.getfield 135, 3) := by decide +kernel
theorem dX12_feed_86 : decode cX12_feed 86 = .ok (.iload 6, 2) := by decide +kernel
theorem dX12_feed_88 : decode cX12_feed 88 = .ok (.iadd, 1) := by decide +kernel
theorem dX12_feed_89 : decode cX12_feed 89 = .ok (.iload 7, 2) := by decide +kernel
theorem dX12_feed_91 : decode cX12_feed 91 = .ok (.bipush 24, 2) := by decide +kernel
theorem dX12_feed_93 : decode cX12_feed 93 = .ok (.bipush 8, 2) := by decide +kernel
theorem dX12_feed_95 : decode cX12_feed 95 = .ok (.iload 6, 2) := by decide +kernel
theorem dX12_feed_97 : decode cX12_feed 97 = .ok (.iconst 4, 1) := by decide +kernel
theorem dX12_feed_98 : decode cX12_feed 98 = .ok (.irem, 1) := by decide +kernel
theorem dX12_feed_99 : decode cX12_feed 99 = .ok (.imul, 1) := by decide +kernel
theorem dX12_feed_100 : decode cX12_feed 100 = .ok (.isub, 1) := by decide +kernel
theorem dX12_feed_101 : decode cX12_feed 101 = .ok (.ishr, 1) := by decide +kernel
theorem dX12_feed_102 : decode cX12_feed 102 = .ok (.sipush 255, 3) := by decide +kernel
theorem dX12_feed_105 : decode cX12_feed 105 = .ok (.iand, 1) := by decide +kernel
theorem dX12_feed_106 : decode cX12_feed 106 = .ok (.iastore, 1) := by decide +kernel
theorem dX12_feed_107 : decode cX12_feed 107 = .ok (.iinc 6 1, 3) := by decide +kernel
theorem dX12_feed_110 : decode cX12_feed 110 = .ok (.goto (-87), 3) := by decide +kernel
theorem dX12_feed_113 : decode cX12_feed 113 = .ok (.aload_n 0, 1) := by decide +kernel
theorem dX12_feed_114 : decode cX12_feed 114 = .ok (.dup, 1) := by decide +kernel
theorem dX12_feed_115 : decode cX12_feed 115 = .ok (.getfield 135, 3) := by decide +kernel
theorem dX12_feed_118 : decode cX12_feed 118 = .ok (.bipush 20, 2) := by decide +kernel
theorem dX12_feed_120 : decode cX12_feed 120 = .ok (.iadd, 1) := by decide +kernel
theorem dX12_feed_121 : decode cX12_feed 121 = .ok (.putfield 135, 3) := by decide +kernel
theorem dX12_feed_124 : decode cX12_feed 124 = .ok (.aload_n 0, 1) := by decide +kernel
theorem dX12_feed_125 : decode cX12_feed 125 = .ok (.getfield 135, 3) := by decide +kernel
theorem dX12_feed_128 : decode cX12_feed 128 = .ok (.ireturn, 1) := by decide +kernel
theorem dX12_isIn_0 : decode cX12_isIn 0 = .ok (.iload_n 0, 1) := by decide +kernel
theorem dX12_isIn_1 : decode cX12_isIn 1 = .ok (.iload_n 1, 1) := by decide +kernel
theorem dX12_isIn_2 : decode cX12_isIn 2 = .ok (.if_icmp .lt 12, 3) := by decide +kernel
theorem dX12_isIn_5 : decode cX12_isIn 5 = .ok (.iload_n 0, 1) := by decide +kernel
theorem dX12_isIn_6 : decode cX12_isIn 6 = .ok (.iload_n 2, 1) := by decide +kernel
theorem dX12_isIn_7 : decode cX12_isIn 7 = .ok (.if_icmp .gt 7, 3) := by decide +kernel
theorem dX12_isIn_10 : decode cX12_isIn 10 = .ok (.iconst 1, 1) := by decide +kernel
theorem dX12_isIn_11 : decode cX12_isIn 11 = .ok (.goto 4, 3) := by decide +kernel
theorem dX12_isIn_14 : decode cX12_isIn 14 = .ok (.iconst 0, 1) := by decide +kernel
theorem dX12_isIn_15 : decode cX12_isIn 15 = .ok (.ireturn, 1) := by decide +kernel
theorem dX12_wrong_0 : decode cX12_wrong 0 = .ok (.aload_n 0, 1) := by decide +kernel
theorem dX12_wrong_1 : decode cX12_wrong 1 = .ok (.iload_n 1, 1) := by decide +kernel
theorem dX12_wrong_2 : decode cX12_wrong 2 = .ok (.putfield 138, 3) := by decide +kernel
theorem dX12_wrong_5 : decode cX12_wrong 5 = .ok (.aload_n 0, 1) := by decide +kernel
theorem dX12_wrong_6 : decode cX12_wrong 6 = .ok (.aload_n 0, 1) := by decide +kernel
theorem dX12_wrong_7 : decode cX12_wrong 7 = .ok (.getfield 141, 3) := by decide +kernel
theorem dX12_wrong_10 : decode cX12_wrong 10 = .ok (.putfield 16, 3) := by decide +kernel
theorem dX12_wrong_13 : decode cX12_wrong 13 = .ok (.iconst 0, 1) := by decide +kernel
theorem dX12_wrong_14 : decode cX12_wrong 14 = .ok (.ireturn, 1) := by decide +kernel
theorem dX12_wordAt_0 : decode cX12_wordAt 0 = .ok (.iconst 0, 1) := by decide +kernel
theorem dX12_wordAt_1 : decode cX12_wordAt 1 = .ok (.istore_n 3, 1) := by decide +kernel
theorem dX12_wordAt_2 : decode cX12_wordAt 2 = .ok (.iconst 0, 1) := by decide +kernel
theorem dX12_wordAt_3 : decode cX12_wordAt 3 = .ok (.istore 4, 2) := by decide +kernel
theorem dX12_wordAt_5 : decode cX12_wordAt 5 = .ok (.iload 4, 2) := by decide +kernel
theorem dX12_wordAt_7 : decode cX12_wordAt 7 = .ok (.aload_n 0, 1) := by decide +kernel
theorem dX12_wordAt_8 : decode cX12_wordAt 8 = .ok (.getfield 13, 3) := by decide +kernel
theorem dX12_wordAt_11 : decode cX12_wordAt 11 = .ok (.arraylength, 1) := by decide +kernel
theorem dX12_wordAt_12 : decode cX12_wordAt 12 = .ok (.if_icmp .ge 114, 3) := by decide +kernel
theorem dX12_wordAt_15 : decode cX12_wordAt 15 = .ok (.iconst 0, 1) := by decide +kernel
theorem dX12_wordAt_16 : decode cX12_wordAt 16 = .ok (.istore 5, 2) := by decide +kernel
theorem dX12_wordAt_18 : decode cX12_wordAt 18 = .ok (.aload_n 0, 1) := by decide +kernel
theorem dX12_wordAt_19 : decode cX12_wordAt 19 = .ok (.getfield 13, 3) := by decide +kernel
theorem dX12_wordAt_22 : decode cX12_wordAt 22 = .ok (.iload 4, 2) := by decide +kernel
theorem dX12_wordAt_24 : decode cX12_wordAt 24 = .ok (.iload 5, 2) := by decide +kernel
theorem dX12_wordAt_26 : decode cX12_wordAt 26 = .ok (.iadd, 1) := by decide +kernel
theorem dX12_wordAt_27 : decode cX12_wordAt 27 = .ok (.iaload, 1) := by decide +kernel
theorem dX12_wordAt_28 : decode cX12_wordAt 28 = .ok (.bipush 32, 2) := by decide +kernel
theorem dX12_wordAt_30 : decode cX12_wordAt 30 = .ok (.if_icmp .eq 9, 3) := by decide +kernel
theorem dX12_wordAt_33 : decode cX12_wordAt 33 = .ok (.iinc 5 1, 3) := by decide +kernel
theorem dX12_wordAt_36 : decode cX12_wordAt 36 = .ok (.goto (-18), 3) := by decide +kernel
theorem dX12_wordAt_39 : decode cX12_wordAt 39 = .ok (.iload 5, 2) := by decide +kernel
theorem dX12_wordAt_41 : decode cX12_wordAt 41 = .ok (.iload_n 2, 1) := by decide +kernel
theorem dX12_wordAt_42 : decode cX12_wordAt 42 = .ok (.iload_n 1, 1) := by decide +kernel
theorem dX12_wordAt_43 : decode cX12_wordAt 43 = .ok (.isub, 1) := by decide +kernel
theorem dX12_wordAt_44 : decode cX12_wordAt 44 = .ok (.if_icmp .ne 7, 3) := by decide +kernel
theorem dX12_wordAt_47 : decode cX12_wordAt 47 = .ok (.iconst 1, 1) := by decide +kernel
theorem dX12_wordAt_48 : decode cX12_wordAt 48 = .ok (.goto 4, 3) := by decide +kernel
theorem dX12_wordAt_51 : decode cX12_wordAt 51 = .ok (.iconst 0, 1) := by decide +kernel
theorem dX12_wordAt_52 : decode cX12_wordAt 52 = .ok (.istore 6, 2) := by decide +kernel
theorem dX12_wordAt_54 : decode cX12_wordAt 54 = .ok (.iconst 0, 1) := by decide +kernel
theorem dX12_wordAt_55 : decode cX12_wordAt 55 = .ok (.istore 7, 2) := by decide +kernel
theorem dX12_wordAt_57 : decode cX12_wordAt 57 = .ok (.iload 7, 2) := by decide +kernel
theorem dX12_wordAt_59 : decode cX12_wordAt 59 = .ok (.iload 5, 2) := by decide +kernel
theorem dX12_wordAt_61 : decode cX12_wordAt 61 = .ok (.if_icmp .ge 43, 3) := by decide +kernel
theorem dX12_wordAt_64 : decode cX12_wordAt 64 = .ok (.iload 6, 2) := by decide +kernel
theorem dX12_wordAt_66 : decode cX12_wordAt 66 = .ok (.ifCond .eq 38, 3) := by decide +kernel
theorem dX12_wordAt_69 : decode cX12_wordAt 69 = .ok (.aload_n 0, 1) := by decide +kernel
theorem dX12_wordAt_70 : decode cX12_wordAt 70 = .ok (.getfield 13, 3) := by decide +kernel
theorem dX12_wordAt_73 : decode cX12_wordAt 73 = .ok (.iload 4, 2) := by decide +kernel
theorem dX12_wordAt_75 : decode cX12_wordAt 75 = .ok (.iload 7, 2) := by decide +kernel
theorem dX12_wordAt_77 : decode cX12_wordAt 77 = .ok (.iadd, 1) := by decide +kernel
theorem dX12_wordAt_78 : decode cX12_wordAt 78 = .ok (.iaload, 1) := by decide +kernel
theorem dX12_wordAt_79 : decode cX12_wordAt 79 = .ok (.aload_n 0, 1) := by decide +kernel
theorem dX12_wordAt_80 : decode cX12_wordAt 80 = .ok (.getfield 7, 3) := by decide +kernel
theorem dX12_wordAt_83 : decode cX12_wordAt 83 = .ok (.iload_n 1, 1) := by decide +kernel
theorem dX12_wordAt_84 : decode cX12_wordAt 84 = .ok (.iload 7, 2) := by decide +kernel
theorem dX12_wordAt_86 : decode cX12_wordAt 86 = .ok (.iadd, 1) := by decide +kernel
theorem dX12_wordAt_87 : decode cX12_wordAt 87 = .ok (.iaload, 1) := by decide +kernel
theorem dX12_wordAt_88 : decode cX12_wordAt 88 = .ok (.if_icmp .ne 7, 3) := by decide +kernel
theorem dX12_wordAt_91 : decode cX12_wordAt 91 = .ok (.iconst 1, 1) := by decide +kernel
theorem dX12_wordAt_92 : decode cX12_wordAt 92 = .ok (.goto 4, 3) := by decide +kernel
theorem dX12_wordAt_95 : decode cX12_wordAt 95 = .ok (.iconst 0, 1) := by decide +kernel
theorem dX12_wordAt_96 : decode cX12_wordAt 96 = .ok (.istore 6, 2) := by decide +kernel
theorem dX12_wordAt_98 : decode cX12_wordAt 98 = .ok (.iinc 7 1, 3) := by decide +kernel
theorem dX12_wordAt_101 : decode cX12_wordAt 101 = .ok (.goto (-44), 3) := by decide +kernel
theorem dX12_wordAt_104 : decode cX12_wordAt 104 = .ok (.iload 6, 2) := by decide +kernel
theorem dX12_wordAt_106 : decode cX12_wordAt 106 = .ok (.ifCond .eq 5, 3) := by decide +kernel
theorem dX12_wordAt_109 : decode cX12_wordAt 109 = .ok (.iload_n 3, 1) := by decide +kernel
theorem dX12_wordAt_110 : decode cX12_wordAt 110 = .ok (.ireturn, 1) := by decide +kernel
theorem dX12_wordAt_111 : decode cX12_wordAt 111 = .ok (.iload 4, 2) := by decide +kernel
theorem dX12_wordAt_113 : decode cX12_wordAt 113 = .ok (.iload 5, 2) := by decide +kernel
theorem dX12_wordAt_115 : decode cX12_wordAt 115 = .ok (.iconst 1, 1) := by decide +kernel
theorem dX12_wordAt_116 : decode cX12_wordAt 116 = .ok (.iadd, 1) := by decide +kernel
theorem dX12_wordAt_117 : decode cX12_wordAt 117 = .ok (.iadd, 1) := by decide +kernel
theorem dX12_wordAt_118 : decode cX12_wordAt 118 = .ok (.istore 4, 2) := by decide +kernel
theorem dX12_wordAt_120 : decode cX12_wordAt 120 = .ok (.iinc 3 1, 3) := by decide +kernel
theorem dX12_wordAt_123 : decode cX12_wordAt 123 = .ok (.goto (-118), 3) := by decide +kernel
theorem dX12_wordAt_126 : decode cX12_wordAt 126 = .ok (.iconst (-1), 1) := by decide +kernel
theorem dX12_wordAt_127 : decode cX12_wordAt 127 = .ok (.ireturn, 1) := by decide +kernel
theorem dX12_isSmall_0 : decode cX12_isSmall 0 = .ok (.iload_n 1, 1) := by decide +kernel
theorem dX12_isSmall_1 : decode cX12_isSmall 1 = .ok (.aload_n 0, 1) := by decide +kernel
theorem dX12_isSmall_2 : decode cX12_isSmall 2 = .ok (.getfield 144, 3) := by decide +kernel
theorem dX12_isSmall_5 : decode cX12_isSmall 5 = .ok (.if_icmp .ge 29, 3) := by decide +kernel
theorem dX12_isSmall_8 : decode cX12_isSmall 8 = .ok (.aload_n 0, 1) := by decide +kernel
theorem dX12_isSmall_9 : decode cX12_isSmall 9 = .ok (.getfield 7, 3) := by decide +kernel
theorem dX12_isSmall_12 : decode cX12_isSmall 12 = .ok (.iload_n 1, 1) := by decide +kernel
theorem dX12_isSmall_13 : decode cX12_isSmall 13 = .ok (.iaload, 1) := by decide +kernel
theorem dX12_isSmall_14 : decode cX12_isSmall 14 = .ok (.bipush 97, 2) := by decide +kernel
theorem dX12_isSmall_16 : decode cX12_isSmall 16 = .ok (.if_icmp .lt 18, 3) := by decide +kernel
theorem dX12_isSmall_19 : decode cX12_isSmall 19 = .ok (.aload_n 0, 1) := by decide +kernel
theorem dX12_isSmall_20 : decode cX12_isSmall 20 = .ok (.getfield 7, 3) := by decide +kernel
theorem dX12_isSmall_23 : decode cX12_isSmall 23 = .ok (.iload_n 1, 1) := by decide +kernel
theorem dX12_isSmall_24 : decode cX12_isSmall 24 = .ok (.iaload, 1) := by decide +kernel
theorem dX12_isSmall_25 : decode cX12_isSmall 25 = .ok (.bipush 122, 2) := by decide +kernel
theorem dX12_isSmall_27 : decode cX12_isSmall 27 = .ok (.if_icmp .gt 7, 3) := by decide +kernel
theorem dX12_isSmall_30 : decode cX12_isSmall 30 = .ok (.iconst 1, 1) := by decide +kernel
theorem dX12_isSmall_31 : decode cX12_isSmall 31 = .ok (.goto 4, 3) := by decide +kernel
theorem dX12_isSmall_34 : decode cX12_isSmall 34 = .ok (.iconst 0, 1) := by decide +kernel
theorem dX12_isSmall_35 : decode cX12_isSmall 35 = .ok (.ireturn, 1) := by decide +kernel
theorem dX12_isDigit_0 : decode cX12_isDigit 0 = .ok (.iload_n 1, 1) := by decide +kernel
theorem dX12_isDigit_1 : decode cX12_isDigit 1 = .ok (.aload_n 0, 1) := by decide +kernel
theorem dX12_isDigit_2 : decode cX12_isDigit 2 = .ok (.getfield 144, 3) := by decide +kernel
theorem dX12_isDigit_5 : decode cX12_isDigit 5 = .ok (.if_icmp .ge 29, 3) := by decide +kernel
theorem dX12_isDigit_8 : decode cX12_isDigit 8 = .ok (.aload_n 0, 1) := by decide +kernel
theorem dX12_isDigit_9 : decode cX12_isDigit 9 = .ok (.getfield 7, 3) := by decide +kernel
theorem dX12_isDigit_12 : decode cX12_isDigit 12 = .ok (.iload_n 1, 1) := by decide +kernel
theorem dX12_isDigit_13 : decode cX12_isDigit 13 = .ok (.iaload, 1) := by decide +kernel
theorem dX12_isDigit_14 : decode cX12_isDigit 14 = .ok (.bipush 48, 2) := by decide +kernel
theorem dX12_isDigit_16 : decode cX12_isDigit 16 = .ok (.if_icmp .lt 18, 3) := by decide +kernel
theorem dX12_isDigit_19 : decode cX12_isDigit 19 = .ok (.aload_n 0, 1) := by decide +kernel
theorem dX12_isDigit_20 : decode cX12_isDigit 20 = .ok (.getfield 7, 3) := by decide +kernel
theorem dX12_isDigit_23 : decode cX12_isDigit 23 = .ok (.iload_n 1, 1) := by decide +kernel
theorem dX12_isDigit_24 : decode cX12_isDigit 24 = .ok (.iaload, 1) := by decide +kernel
theorem dX12_isDigit_25 : decode cX12_isDigit 25 = .ok (.bipush 57, 2) := by decide +kernel
theorem dX12_isDigit_27 : decode cX12_isDigit 27 = .ok (.if_icmp .gt 7, 3) := by decide +kernel
theorem dX12_isDigit_30 : decode cX12_isDigit 30 = .ok (.iconst 1, 1) := by decide +kernel
theorem dX12_isDigit_31 : decode cX12_isDigit 31 = .ok (.goto 4, 3) := by decide +kernel
theorem dX12_isDigit_34 : decode cX12_isDigit 34 = .ok (.iconst 0, 1) := by decide +kernel
theorem dX12_isDigit_35 : decode cX12_isDigit 35 = .ok (.ireturn, 1) := by decide +kernel
theorem dX12_take_0 : decode cX12_take 0 = .ok (.aload_n 0, 1) := by decide +kernel
theorem dX12_take_1 : decode cX12_take 1 = .ok (.getfield 147, 3) := by decide +kernel
theorem dX12_take_4 : decode cX12_take 4 = .ok (.aload_n 0, 1) := by decide +kernel
theorem dX12_take_5 : decode cX12_take 5 = .ok (.getfield 144, 3) := by decide +kernel
theorem dX12_take_8 : decode cX12_take 8 = .ok (.if_icmp .ge 44, 3) := by decide +kernel
theorem dX12_take_11 : decode cX12_take 11 = .ok (.aload_n 0, 1) := by decide +kernel
theorem dX12_take_12 : decode cX12_take 12 = .ok (.getfield 7, 3) := by decide +kernel
theorem dX12_take_15 : decode cX12_take 15 = .ok (.aload_n 0, 1) := by decide +kernel
theorem dX12_take_16 : decode cX12_take 16 = .ok (.getfield 147, 3) := by decide +kernel
theorem dX12_take_19 : decode cX12_take 19 = .ok (.iaload, 1) := by decide +kernel
theorem dX12_take_20 : decode cX12_take 20 = .ok (.bipush 10, 2) := by decide +kernel
theorem dX12_take_22 : decode cX12_take 22 = .ok (.if_icmp .eq 17, 3) := by decide +kernel
theorem dX12_take_25 : decode cX12_take 25 = .ok (.aload_n 0, 1) := by decide +kernel
theorem dX12_take_26 : decode cX12_take 26 = .ok (.getfield 7, 3) := by decide +kernel
theorem dX12_take_29 : decode cX12_take 29 = .ok (.aload_n 0, 1) := by decide +kernel
theorem dX12_take_30 : decode cX12_take 30 = .ok (.getfield 147, 3) := by decide +kernel
theorem dX12_take_33 : decode cX12_take 33 = .ok (.iaload, 1) := by decide +kernel
theorem dX12_take_34 : decode cX12_take 34 = .ok (.bipush 32, 2) := by decide +kernel
theorem dX12_take_36 : decode cX12_take 36 = .ok (.if_icmp .ne 16, 3) := by decide +kernel
theorem dX12_take_39 : decode cX12_take 39 = .ok (.aload_n 0, 1) := by decide +kernel
theorem dX12_take_40 : decode cX12_take 40 = .ok (.dup, 1) := by decide +kernel
theorem dX12_take_41 : decode cX12_take 41 = .ok (.getfield 147, 3) := by decide +kernel
theorem dX12_take_44 : decode cX12_take 44 = .ok (.iconst 1, 1) := by decide +kernel
theorem dX12_take_45 : decode cX12_take 45 = .ok (.iadd, 1) := by decide +kernel
theorem dX12_take_46 : decode cX12_take 46 = .ok (.putfield 147, 3) := by decide +kernel
theorem dX12_take_49 : decode cX12_take 49 = .ok (.goto (-49), 3) := by decide +kernel
theorem dX12_take_52 : decode cX12_take 52 = .ok (.aload_n 0, 1) := by decide +kernel
theorem dX12_take_53 : decode cX12_take 53 = .ok (.aload_n 0, 1) := by decide +kernel
theorem dX12_take_54 : decode cX12_take 54 = .ok (.getfield 147, 3) := by decide +kernel
theorem dX12_take_57 : decode cX12_take 57 = .ok (.putfield 141, 3) := by decide +kernel
theorem dX12_take_60 : decode cX12_take 60 = .ok (.aload_n 0, 1) := by decide +kernel
theorem dX12_take_61 : decode cX12_take 61 = .ok (.getfield 147, 3) := by decide +kernel
theorem dX12_take_64 : decode cX12_take 64 = .ok (.aload_n 0, 1) := by decide +kernel
theorem dX12_take_65 : decode cX12_take 65 = .ok (.getfield 144, 3) := by decide +kernel
theorem dX12_take_68 : decode cX12_take 68 = .ok (.if_icmp .ne 11, 3) := by decide +kernel
theorem dX12_take_71 : decode cX12_take 71 = .ok (.aload_n 0, 1) := by decide +kernel
theorem dX12_take_72 : decode cX12_take 72 = .ok (.iconst 0, 1) := by decide +kernel
theorem dX12_take_73 : decode cX12_take 73 = .ok (.putfield 150, 3) := by decide +kernel
theorem dX12_take_76 : decode cX12_take 76 = .ok (.goto 233, 3) := by decide +kernel
theorem dX12_take_79 : decode cX12_take 79 = .ok (.aload_n 0, 1) := by decide +kernel
theorem dX12_take_80 : decode cX12_take 80 = .ok (.aload_n 0, 1) := by decide +kernel
theorem dX12_take_81 : decode cX12_take 81 = .ok (.getfield 147, 3) := by decide +kernel
theorem dX12_take_84 : decode cX12_take 84 = .ok (.invokevirtual 153, 3) := by decide +kernel
theorem dX12_take_87 : decode cX12_take 87 = .ok (.ifCond .eq 104, 3) := by decide +kernel
theorem dX12_take_90 : decode cX12_take 90 = .ok (.aload_n 0, 1) := by decide +kernel
theorem dX12_take_91 : decode cX12_take 91 = .ok (.aload_n 0, 1) := by decide +kernel
theorem dX12_take_92 : decode cX12_take 92 = .ok (.getfield 147, 3) := by decide +kernel
theorem dX12_take_95 : decode cX12_take 95 = .ok (.invokevirtual 153, 3) := by decide +kernel
theorem dX12_take_98 : decode cX12_take 98 = .ok (.ifCond .eq 16, 3) := by decide +kernel
theorem dX12_take_101 : decode cX12_take 101 = .ok (.aload_n 0, 1) := by decide +kernel
theorem dX12_take_102 : decode cX12_take 102 = .ok (.dup, 1) := by decide +kernel
theorem dX12_take_103 : decode cX12_take 103 = .ok (.getfield 147, 3) := by decide +kernel
theorem dX12_take_106 : decode cX12_take 106 = .ok (.iconst 1, 1) := by decide +kernel
theorem dX12_take_107 : decode cX12_take 107 = .ok (.iadd, 1) := by decide +kernel
theorem dX12_take_108 : decode cX12_take 108 = .ok (.putfield 147, 3) := by decide +kernel
theorem dX12_take_111 : decode cX12_take 111 = .ok (.goto (-21), 3) := by decide +kernel
theorem dX12_take_114 : decode cX12_take 114 = .ok (.aload_n 0, 1) := by decide +kernel
theorem dX12_take_115 : decode cX12_take 115 = .ok (.aload_n 0, 1) := by decide +kernel
theorem dX12_take_116 : decode cX12_take 116 = .ok (.aload_n 0, 1) := by decide +kernel
theorem dX12_take_117 : decode cX12_take 117 = .ok (.getfield 141, 3) := by decide +kernel
theorem dX12_take_120 : decode cX12_take 120 = .ok (.aload_n 0, 1) := by decide +kernel
theorem dX12_take_121 : decode cX12_take 121 = .ok (.getfield 147, 3) := by decide +kernel
theorem dX12_take_124 : decode cX12_take 124 = .ok (.invokevirtual 157, 3) := by decide +kernel
theorem dX12_take_127 : decode cX12_take 127 = .ok (.putfield 161, 3) := by decide +kernel
theorem dX12_take_130 : decode cX12_take 130 = .ok (.aload_n 0, 1) := by decide +kernel
theorem dX12_take_131 : decode cX12_take 131 = .ok (.aload_n 0, 1) := by decide +kernel
theorem dX12_take_132 : decode cX12_take 132 = .ok (.getfield 161, 3) := by decide +kernel
theorem dX12_take_135 : decode cX12_take 135 = .ok (.ifCond .lt 7, 3) := by decide +kernel
theorem dX12_take_138 : decode cX12_take 138 = .ok (.iconst 1, 1) := by decide +kernel
theorem dX12_take_139 : decode cX12_take 139 = .ok (.goto 22, 3) := by decide +kernel
theorem dX12_take_142 : decode cX12_take 142 = .ok (.aload_n 0, 1) := by decide +kernel
theorem dX12_take_143 : decode cX12_take 143 = .ok (.getfield 147, 3) := by decide +kernel
theorem dX12_take_146 : decode cX12_take 146 = .ok (.aload_n 0, 1) := by decide +kernel
theorem dX12_take_147 : decode cX12_take 147 = .ok (.getfield 141, 3) := by decide +kernel
theorem dX12_take_150 : decode cX12_take 150 = .ok (.isub, 1) := by decide +kernel
theorem dX12_take_151 : decode cX12_take 151 = .ok (.bipush 6, 2) := by decide +kernel
theorem dX12_take_153 : decode cX12_take 153 = .ok (.if_icmp .le 7, 3) := by decide +kernel
theorem dX12_take_156 : decode cX12_take 156 = .ok (.iconst 5, 1) := by decide +kernel
theorem dX12_take_157 : decode cX12_take 157 = .ok (.goto 4, 3) := by decide +kernel
theorem dX12_take_160 : decode cX12_take 160 = .ok (.iconst 2, 1) := by decide +kernel
theorem dX12_take_161 : decode cX12_take 161 = .ok (.putfield 150, 3) := by decide +kernel
theorem dX12_take_164 : decode cX12_take 164 = .ok (.aload_n 0, 1) := by decide +kernel
theorem dX12_take_165 : decode cX12_take 165 = .ok (.getfield 150, 3) := by decide +kernel
theorem dX12_take_168 : decode cX12_take 168 = .ok (.iconst 2, 1) := by decide +kernel
theorem dX12_take_169 : decode cX12_take 169 = .ok (.if_icmp .ne 140, 3) := by decide +kernel
theorem dX12_take_172 : decode cX12_take 172 = .ok (.aload_n 0, 1) := by decide +kernel
theorem dX12_take_173 : decode cX12_take 173 = .ok (.aload_n 0, 1) := by decide +kernel
theorem dX12_take_174 : decode cX12_take 174 = .ok (.aload_n 0, 1) := by decide +kernel
theorem dX12_take_175 : decode cX12_take 175 = .ok (.getfield 141, 3) := by decide +kernel
theorem dX12_take_178 : decode cX12_take 178 = .ok (.aload_n 0, 1) := by decide +kernel
theorem dX12_take_179 : decode cX12_take 179 = .ok (.getfield 147, 3) := by decide +kernel
theorem dX12_take_182 : decode cX12_take 182 = .ok (.invokevirtual 164, 3) := by decide +kernel
theorem dX12_take_185 : decode cX12_take 185 = .ok (.putfield 161, 3) := by decide +kernel
theorem dX12_take_188 : decode cX12_take 188 = .ok (.goto 121, 3) := by decide +kernel
theorem dX12_take_191 : decode cX12_take 191 = .ok (.aload_n 0, 1) := by decide +kernel
theorem dX12_take_192 : decode cX12_take 192 = .ok (.aload_n 0, 1) := by decide +kernel
theorem dX12_take_193 : decode cX12_take 193 = .ok (.getfield 147, 3) := by decide +kernel
theorem dX12_take_196 : decode cX12_take 196 = .ok (.invokevirtual 167, 3) := by decide +kernel
theorem dX12_take_199 : decode cX12_take 199 = .ok (.ifCond .eq 77, 3) := by decide +kernel
theorem dX12_take_202 : decode cX12_take 202 = .ok (.aload_n 0, 1) := by decide +kernel
theorem dX12_take_203 : decode cX12_take 203 = .ok (.iconst 3, 1) := by decide +kernel
theorem dX12_take_204 : decode cX12_take 204 = .ok (.putfield 150, 3) := by decide +kernel
theorem dX12_take_207 : decode cX12_take 207 = .ok (.aload_n 0, 1) := by decide +kernel
theorem dX12_take_208 : decode cX12_take 208 = .ok (.iconst 0, 1) := by decide +kernel
theorem dX12_take_209 : decode cX12_take 209 = .ok (.putfield 161, 3) := by decide +kernel
theorem dX12_take_212 : decode cX12_take 212 = .ok (.aload_n 0, 1) := by decide +kernel
theorem dX12_take_213 : decode cX12_take 213 = .ok (.aload_n 0, 1) := by decide +kernel
theorem dX12_take_214 : decode cX12_take 214 = .ok (.getfield 147, 3) := by decide +kernel
theorem dX12_take_217 : decode cX12_take 217 = .ok (.invokevirtual 167, 3) := by decide +kernel
theorem dX12_take_220 : decode cX12_take 220 = .ok (.ifCond .eq 89, 3) := by decide +kernel
theorem dX12_take_223 : decode cX12_take 223 = .ok (.aload_n 0, 1) := by decide +kernel
theorem dX12_take_224 : decode cX12_take 224 = .ok (.aload_n 0, 1) := by decide +kernel
theorem dX12_take_225 : decode cX12_take 225 = .ok (.getfield 161, 3) := by decide +kernel
theorem dX12_take_228 : decode cX12_take 228 = .ok (.bipush 99, 2) := by decide +kernel
theorem dX12_take_230 : decode cX12_take 230 = .ok (.if_icmp .le 10, 3) := by decide +kernel
theorem dX12_take_233 : decode cX12_take 233 = .ok (.aload_n 0, 1) := by decide +kernel
theorem dX12_take_234 : decode cX12_take 234 = .ok (.getfield 161, 3) := by decide +kernel
theorem dX12_take_237 : decode cX12_take 237 = .ok (.goto 23, 3) := by decide +kernel
theorem dX12_take_240 : decode cX12_take 240 = .ok (.bipush 10, 2) := by decide +kernel
theorem dX12_take_242 : decode cX12_take 242 = .ok (.aload_n 0, 1) := by decide +kernel
theorem dX12_take_243 : decode cX12_take 243 = .ok (.getfield 161, 3) := by decide +kernel
theorem dX12_take_246 : decode cX12_take 246 = .ok (.imul, 1) := by decide +kernel
theorem dX12_take_247 : decode cX12_take 247 = .ok (.aload_n 0, 1) := by decide +kernel
theorem dX12_take_248 : decode cX12_take 248 = .ok (.getfield 7, 3) := by decide +kernel
theorem dX12_take_251 : decode cX12_take 251 = .ok (.aload_n 0, 1) := by decide +kernel
theorem dX12_take_252 : decode cX12_take 252 = .ok (.getfield 147, 3) := by decide +kernel
theorem dX12_take_255 : decode cX12_take 255 = .ok (.iaload, 1) := by decide +kernel
theorem dX12_take_256 : decode cX12_take 256 = .ok (.iadd, 1) := by decide +kernel
theorem dX12_take_257 : decode cX12_take 257 = .ok (.bipush 48, 2) := by decide +kernel
theorem dX12_take_259 : decode cX12_take 259 = .ok (.isub, 1) := by decide +kernel
theorem dX12_take_260 : decode cX12_take 260 = .ok (.putfield 161, 3) := by decide +kernel
theorem dX12_take_263 : decode cX12_take 263 = .ok (.aload_n 0, 1) := by decide +kernel
theorem dX12_take_264 : decode cX12_take 264 = .ok (.dup, 1) := by decide +kernel
theorem dX12_take_265 : decode cX12_take 265 = .ok (.getfield 147, 3) := by decide +kernel
theorem dX12_take_268 : decode cX12_take 268 = .ok (.iconst 1, 1) := by decide +kernel
theorem dX12_take_269 : decode cX12_take 269 = .ok (.iadd, 1) := by decide +kernel
theorem dX12_take_270 : decode cX12_take 270 = .ok (.putfield 147, 3) := by decide +kernel
theorem dX12_take_273 : decode cX12_take 273 = .ok (.goto (-61), 3) := by decide +kernel
theorem dX12_take_276 : decode cX12_take 276 = .ok (.aload_n 0, 1) := by decide +kernel
theorem dX12_take_277 : decode cX12_take 277 = .ok (.aload_n 0, 1) := by decide +kernel
theorem dX12_take_278 : decode cX12_take 278 = .ok (.getfield 7, 3) := by decide +kernel
theorem dX12_take_281 : decode cX12_take 281 = .ok (.aload_n 0, 1) := by decide +kernel
theorem dX12_take_282 : decode cX12_take 282 = .ok (.getfield 147, 3) := by decide +kernel
theorem dX12_take_285 : decode cX12_take 285 = .ok (.iaload, 1) := by decide +kernel
theorem dX12_take_286 : decode cX12_take 286 = .ok (.bipush 59, 2) := by decide +kernel
theorem dX12_take_288 : decode cX12_take 288 = .ok (.if_icmp .ne 7, 3) := by decide +kernel
theorem dX12_take_291 : decode cX12_take 291 = .ok (.iconst 4, 1) := by decide +kernel
theorem dX12_take_292 : decode cX12_take 292 = .ok (.goto 4, 3) := by decide +kernel
theorem dX12_take_295 : decode cX12_take 295 = .ok (.iconst 5, 1) := by decide +kernel
theorem dX12_take_296 : decode cX12_take 296 = .ok (.putfield 150, 3) := by decide +kernel
theorem dX12_take_299 : decode cX12_take 299 = .ok (.aload_n 0, 1) := by decide +kernel
theorem dX12_take_300 : decode cX12_take 300 = .ok (.dup, 1) := by decide +kernel
theorem dX12_take_301 : decode cX12_take 301 = .ok (.getfield 147, 3) := by decide +kernel
theorem dX12_take_304 : decode cX12_take 304 = .ok (.iconst 1, 1) := by decide +kernel
theorem dX12_take_305 : decode cX12_take 305 = .ok (.iadd, 1) := by decide +kernel
theorem dX12_take_306 : decode cX12_take 306 = .ok (.putfield 147, 3) := by decide +kernel
theorem dX12_take_309 : decode cX12_take 309 = .ok (.return_, 1) := by decide +kernel
theorem dX12_packed_0 : decode cX12_packed 0 = .ok (.iconst 0, 1) := by decide +kernel
theorem dX12_packed_1 : decode cX12_packed 1 = .ok (.istore_n 3, 1) := by decide +kernel
theorem dX12_packed_2 : decode cX12_packed 2 = .ok (.iload_n 1, 1) := by decide +kernel
theorem dX12_packed_3 : decode cX12_packed 3 = .ok (.istore 4, 2) := by decide +kernel
theorem dX12_packed_5 : decode cX12_packed 5 = .ok (.iload 4, 2) := by decide +kernel
theorem dX12_packed_7 : decode cX12_packed 7 = .ok (.iload_n 1, 1) := by decide +kernel
theorem dX12_packed_8 : decode cX12_packed 8 = .ok (.bipush 6, 2) := by decide +kernel
theorem dX12_packed_10 : decode cX12_packed 10 = .ok (.iadd, 1) := by decide +kernel
theorem dX12_packed_11 : decode cX12_packed 11 = .ok (.if_icmp .ge 34, 3) := by decide +kernel
theorem dX12_packed_14 : decode cX12_packed 14 = .ok (.iload_n 3, 1) := by decide +kernel
theorem dX12_packed_15 : decode cX12_packed 15 = .ok (.iconst 5, 1) := by decide +kernel
theorem dX12_packed_16 : decode cX12_packed 16 = .ok (.ishl, 1) := by decide +kernel
theorem dX12_packed_17 : decode cX12_packed 17 = .ok (.iload 4, 2) := by decide +kernel
theorem dX12_packed_19 : decode cX12_packed 19 = .ok (.iload_n 2, 1) := by decide +kernel
theorem dX12_packed_20 : decode cX12_packed 20 = .ok (.if_icmp .ge 16, 3) := by decide +kernel
theorem dX12_packed_23 : decode cX12_packed 23 = .ok (.aload_n 0, 1) := by decide +kernel
theorem dX12_packed_24 : decode cX12_packed 24 = .ok (.getfield 7, 3) := by decide +kernel
theorem dX12_packed_27 : decode cX12_packed 27 = .ok (.iload 4, 2) := by decide +kernel
theorem dX12_packed_29 : decode cX12_packed 29 = .ok (.iaload, 1) := by decide +kernel
theorem dX12_packed_30 : decode cX12_packed 30 = .ok (.bipush 96, 2) := by decide +kernel
theorem dX12_packed_32 : decode cX12_packed 32 = .ok (.isub, 1) := by decide +kernel
theorem dX12_packed_33 : decode cX12_packed 33 = .ok (.goto 4, 3) := by decide +kernel
theorem dX12_packed_36 : decode cX12_packed 36 = .ok (.iconst 0, 1) := by decide +kernel
theorem dX12_packed_37 : decode cX12_packed 37 = .ok (.ior, 1) := by decide +kernel
theorem dX12_packed_38 : decode cX12_packed 38 = .ok (.istore_n 3, 1) := by decide +kernel
theorem dX12_packed_39 : decode cX12_packed 39 = .ok (.iinc 4 1, 3) := by decide +kernel
theorem dX12_packed_42 : decode cX12_packed 42 = .ok (.goto (-37), 3) := by decide +kernel
theorem dX12_packed_45 : decode cX12_packed 45 = .ok (.iload_n 3, 1) := by decide +kernel
theorem dX12_packed_46 : decode cX12_packed 46 = .ok (.ireturn, 1) := by decide +kernel
theorem dX12_plain_0 : decode cX12_plain 0 = .ok (.aload_n 0, 1) := by decide +kernel
theorem dX12_plain_1 : decode cX12_plain 1 = .ok (.iconst 2, 1) := by decide +kernel
theorem dX12_plain_2 : decode cX12_plain 2 = .ok (.putfield 170, 3) := by decide +kernel
theorem dX12_plain_5 : decode cX12_plain 5 = .ok (.aload_n 0, 1) := by decide +kernel
theorem dX12_plain_6 : decode cX12_plain 6 = .ok (.iconst 0, 1) := by decide +kernel
theorem dX12_plain_7 : decode cX12_plain 7 = .ok (.putfield 173, 3) := by decide +kernel
theorem dX12_plain_10 : decode cX12_plain 10 = .ok (.aload_n 0, 1) := by decide +kernel
theorem dX12_plain_11 : decode cX12_plain 11 = .ok (.iconst 0, 1) := by decide +kernel
theorem dX12_plain_12 : decode cX12_plain 12 = .ok (.putfield 176, 3) := by decide +kernel
theorem dX12_plain_15 : decode cX12_plain 15 = .ok (.aload_n 0, 1) := by decide +kernel
theorem dX12_plain_16 : decode cX12_plain 16 = .ok (.iconst 0, 1) := by decide +kernel
theorem dX12_plain_17 : decode cX12_plain 17 = .ok (.putfield 179, 3) := by decide +kernel
theorem dX12_plain_20 : decode cX12_plain 20 = .ok (.aload_n 0, 1) := by decide +kernel
theorem dX12_plain_21 : decode cX12_plain 21 = .ok (.iconst 0, 1) := by decide +kernel
theorem dX12_plain_22 : decode cX12_plain 22 = .ok (.putfield 182, 3) := by decide +kernel
theorem dX12_plain_25 : decode cX12_plain 25 = .ok (.return_, 1) := by decide +kernel
theorem dX12_teams_0 : decode cX12_teams 0 = .ok (.aload_n 0, 1) := by decide +kernel
theorem dX12_teams_1 : decode cX12_teams 1 = .ok (.getfield 185, 3) := by decide +kernel
theorem dX12_teams_4 : decode cX12_teams 4 = .ok (.aload_n 0, 1) := by decide +kernel
theorem dX12_teams_5 : decode cX12_teams 5 = .ok (.getfield 188, 3) := by decide +kernel
theorem dX12_teams_8 : decode cX12_teams 8 = .ok (.imul, 1) := by decide +kernel
theorem dX12_teams_9 : decode cX12_teams 9 = .ok (.ireturn, 1) := by decide +kernel
theorem dX12_isNumber_0 : decode cX12_isNumber 0 = .ok (.aload_n 0, 1) := by decide +kernel
theorem dX12_isNumber_1 : decode cX12_isNumber 1 = .ok (.getfield 150, 3) := by decide +kernel
theorem dX12_isNumber_4 : decode cX12_isNumber 4 = .ok (.iconst 3, 1) := by decide +kernel
theorem dX12_isNumber_5 : decode cX12_isNumber 5 = .ok (.if_icmp .eq 9, 3) := by decide +kernel
theorem dX12_isNumber_8 : decode cX12_isNumber 8 = .ok (.aload_n 0, 1) := by decide +kernel
theorem dX12_isNumber_9 : decode cX12_isNumber 9 = .ok (.iconst 1, 1) := by decide +kernel
theorem dX12_isNumber_10 : decode cX12_isNumber 10 = .ok (.invokevirtual 191, 3) := by decide +kernel
theorem dX12_isNumber_13 : decode cX12_isNumber 13 = .ok (.ireturn, 1) := by decide +kernel
theorem dX12_isNumber_14 : decode cX12_isNumber 14 = .ok (.aload_n 0, 1) := by decide +kernel
theorem dX12_isNumber_15 : decode cX12_isNumber 15 = .ok (.getfield 161, 3) := by decide +kernel
theorem dX12_isNumber_18 : decode cX12_isNumber 18 = .ok (.iload_n 1, 1) := by decide +kernel
theorem dX12_isNumber_19 : decode cX12_isNumber 19 = .ok (.if_icmp .lt 11, 3) := by decide +kernel
theorem dX12_isNumber_22 : decode cX12_isNumber 22 = .ok (.aload_n 0, 1) := by decide +kernel
theorem dX12_isNumber_23 : decode cX12_isNumber 23 = .ok (.getfield 161, 3) := by decide +kernel
theorem dX12_isNumber_26 : decode cX12_isNumber 26 = .ok (.iload_n 2, 1) := by decide +kernel
theorem dX12_isNumber_27 : decode cX12_isNumber 27 = .ok (.if_icmp .le 11, 3) := by decide +kernel
theorem dX12_isNumber_30 : decode cX12_isNumber 30 = .ok (.aload_n 0, 1) := by decide +kernel
theorem dX12_isNumber_31 : decode cX12_isNumber 31 = .ok (.iconst 2, 1) := by decide +kernel
theorem dX12_isNumber_32 : decode cX12_isNumber 32 = .ok (.invokevirtual 191, 3) := by decide +kernel
theorem dX12_isNumber_35 : decode cX12_isNumber 35 = .ok (.ifCond .eq 7, 3) := by decide +kernel
theorem dX12_isNumber_38 : decode cX12_isNumber 38 = .ok (.iconst 1, 1) := by decide +kernel
theorem dX12_isNumber_39 : decode cX12_isNumber 39 = .ok (.goto 4, 3) := by decide +kernel
theorem dX12_isNumber_42 : decode cX12_isNumber 42 = .ok (.iconst 0, 1) := by decide +kernel
theorem dX12_isNumber_43 : decode cX12_isNumber 43 = .ok (.ireturn, 1) := by decide +kernel
theorem dX12_teamOf_0 : decode cX12_teamOf 0 = .ok (.iconst 0, 1) := by decide +kernel
theorem dX12_teamOf_1 : decode cX12_teamOf 1 = .ok (.istore_n 2, 1) := by decide +kernel
theorem dX12_teamOf_2 : decode cX12_teamOf 2 = .ok (.iload_n 2, 1) := by decide +kernel
theorem dX12_teamOf_3 : decode cX12_teamOf 3 = .ok (.aload_n 0, 1) := by decide +kernel
theorem dX12_teamOf_4 : decode cX12_teamOf 4 = .ok (.getfield 176, 3) := by decide +kernel
theorem dX12_teamOf_7 : decode cX12_teamOf 7 = .ok (.if_icmp .ge 21, 3) := by decide +kernel
theorem dX12_teamOf_10 : decode cX12_teamOf 10 = .ok (.aload_n 0, 1) := by decide +kernel
theorem dX12_teamOf_11 : decode cX12_teamOf 11 = .ok (.getfield 32, 3) := by decide +kernel
theorem dX12_teamOf_14 : decode cX12_teamOf 14 = .ok (.iload_n 2, 1) := by decide +kernel
theorem dX12_teamOf_15 : decode cX12_teamOf 15 = .ok (.iaload, 1) := by decide +kernel
theorem dX12_teamOf_16 : decode cX12_teamOf 16 = .ok (.iload_n 1, 1) := by decide +kernel
theorem dX12_teamOf_17 : decode cX12_teamOf 17 = .ok (.if_icmp .ne 5, 3) := by decide +kernel
theorem dX12_teamOf_20 : decode cX12_teamOf 20 = .ok (.iload_n 2, 1) := by decide +kernel
theorem dX12_teamOf_21 : decode cX12_teamOf 21 = .ok (.ireturn, 1) := by decide +kernel
theorem dX12_teamOf_22 : decode cX12_teamOf 22 = .ok (.iinc 2 1, 3) := by decide +kernel
theorem dX12_teamOf_25 : decode cX12_teamOf 25 = .ok (.goto (-23), 3) := by decide +kernel
theorem dX12_teamOf_28 : decode cX12_teamOf 28 = .ok (.iconst (-1), 1) := by decide +kernel
theorem dX12_teamOf_29 : decode cX12_teamOf 29 = .ok (.ireturn, 1) := by decide +kernel
theorem dX12_markOf_0 : decode cX12_markOf 0 = .ok (.iconst 0, 1) := by decide +kernel
theorem dX12_markOf_1 : decode cX12_markOf 1 = .ok (.istore_n 2, 1) := by decide +kernel
theorem dX12_markOf_2 : decode cX12_markOf 2 = .ok (.iload_n 2, 1) := by decide +kernel
theorem dX12_markOf_3 : decode cX12_markOf 3 = .ok (.aload_n 0, 1) := by decide +kernel
theorem dX12_markOf_4 : decode cX12_markOf 4 = .ok (.getfield 179, 3) := by decide +kernel
theorem dX12_markOf_7 : decode cX12_markOf 7 = .ok (.if_icmp .ge 21, 3) := by decide +kernel
theorem dX12_markOf_10 : decode cX12_markOf 10 = .ok (.aload_n 0, 1) := by decide +kernel
theorem dX12_markOf_11 : decode cX12_markOf 11 = .ok (.getfield 35, 3) := by decide +kernel
theorem dX12_markOf_14 : decode cX12_markOf 14 = .ok (.iload_n 2, 1) := by decide +kernel
theorem dX12_markOf_15 : decode cX12_markOf 15 = .ok (.iaload, 1) := by decide +kernel
theorem dX12_markOf_16 : decode cX12_markOf 16 = .ok (.iload_n 1, 1) := by decide +kernel
theorem dX12_markOf_17 : decode cX12_markOf 17 = .ok (.if_icmp .ne 5, 3) := by decide +kernel
theorem dX12_markOf_20 : decode cX12_markOf 20 = .ok (.iload_n 2, 1) := by decide +kernel
theorem dX12_markOf_21 : decode cX12_markOf 21 = .ok (.ireturn, 1) := by decide +kernel
theorem dX12_markOf_22 : decode cX12_markOf 22 = .ok (.iinc 2 1, 3) := by decide +kernel
theorem dX12_markOf_25 : decode cX12_markOf 25 = .ok (.goto (-23), 3) := by decide +kernel
theorem dX12_markOf_28 : decode cX12_markOf 28 = .ok (.iconst (-1), 1) := by decide +kernel
theorem dX12_markOf_29 : decode cX12_markOf 29 = .ok (.ireturn, 1) := by decide +kernel
theorem dX12_potRead_0 : decode cX12_potRead 0 = .ok (.aload_n 0, 1) := by decide +kernel
theorem dX12_potRead_1 : decode cX12_potRead 1 = .ok (.getfield 173, 3) := by decide +kernel
theorem dX12_potRead_4 : decode cX12_potRead 4 = .ok (.iconst 4, 1) := by decide +kernel
theorem dX12_potRead_5 : decode cX12_potRead 5 = .ok (.if_icmp .eq 17, 3) := by decide +kernel
theorem dX12_potRead_8 : decode cX12_potRead 8 = .ok (.aload_n 0, 1) := by decide +kernel
theorem dX12_potRead_9 : decode cX12_potRead 9 = .ok (.getfield 176, 3) := by decide +kernel
theorem dX12_potRead_12 : decode cX12_potRead 12 = .ok (.aload_n 0, 1) := by decide +kernel
theorem dX12_potRead_13 : decode cX12_potRead 13 = .ok (.getfield 170, 3) := by decide +kernel
theorem dX12_potRead_16 : decode cX12_potRead 16 = .ok (.iadd, 1) := by decide +kernel
theorem dX12_potRead_17 : decode cX12_potRead 17 = .ok (.bipush 12, 2) := by decide +kernel
theorem dX12_potRead_19 : decode cX12_potRead 19 = .ok (.if_icmp .le 9, 3) := by decide +kernel
theorem dX12_potRead_22 : decode cX12_potRead 22 = .ok (.aload_n 0, 1) := by decide +kernel
theorem dX12_potRead_23 : decode cX12_potRead 23 = .ok (.iconst 2, 1) := by decide +kernel
theorem dX12_potRead_24 : decode cX12_potRead 24 = .ok (.invokevirtual 191, 3) := by decide +kernel
theorem dX12_potRead_27 : decode cX12_potRead 27 = .ok (.ireturn, 1) := by decide +kernel
theorem dX12_potRead_28 : decode cX12_potRead 28 = .ok (.aload_n 0, 1) := by decide +kernel
theorem dX12_potRead_29 : decode cX12_potRead 29 = .ok (.invokevirtual 194, 3) := by decide +kernel
theorem dX12_potRead_32 : decode cX12_potRead 32 = .ok (.aload_n 0, 1) := by decide +kernel
theorem dX12_potRead_33 : decode cX12_potRead 33 = .ok (.getfield 150, 3) := by decide +kernel
theorem dX12_potRead_36 : decode cX12_potRead 36 = .ok (.iconst 2, 1) := by decide +kernel
theorem dX12_potRead_37 : decode cX12_potRead 37 = .ok (.if_icmp .eq 9, 3) := by decide +kernel
theorem dX12_potRead_40 : decode cX12_potRead 40 = .ok (.aload_n 0, 1) := by decide +kernel
theorem dX12_potRead_41 : decode cX12_potRead 41 = .ok (.iconst 1, 1) := by decide +kernel
theorem dX12_potRead_42 : decode cX12_potRead 42 = .ok (.invokevirtual 191, 3) := by decide +kernel
theorem dX12_potRead_45 : decode cX12_potRead 45 = .ok (.ireturn, 1) := by decide +kernel
theorem dX12_potRead_46 : decode cX12_potRead 46 = .ok (.iconst 0, 1) := by decide +kernel
theorem dX12_potRead_47 : decode cX12_potRead 47 = .ok (.istore_n 1, 1) := by decide +kernel
theorem dX12_potRead_48 : decode cX12_potRead 48 = .ok (.aload_n 0, 1) := by decide +kernel
theorem dX12_potRead_49 : decode cX12_potRead 49 = .ok (.getfield 150, 3) := by decide +kernel
theorem dX12_potRead_52 : decode cX12_potRead 52 = .ok (.iconst 2, 1) := by decide +kernel
theorem dX12_potRead_53 : decode cX12_potRead 53 = .ok (.if_icmp .ne 67, 3) := by decide +kernel
theorem dX12_potRead_56 : decode cX12_potRead 56 = .ok (.iload_n 1, 1) := by decide +kernel
theorem dX12_potRead_57 : decode cX12_potRead 57 = .ok (.aload_n 0, 1) := by decide +kernel
theorem dX12_potRead_58 : decode cX12_potRead 58 = .ok (.getfield 170, 3) := by decide +kernel
theorem dX12_potRead_61 : decode cX12_potRead 61 = .ok (.if_icmp .ne 9, 3) := by decide +kernel
theorem dX12_potRead_64 : decode cX12_potRead 64 = .ok (.aload_n 0, 1) := by decide +kernel
theorem dX12_potRead_65 : decode cX12_potRead 65 = .ok (.iconst 2, 1) := by decide +kernel
theorem dX12_potRead_66 : decode cX12_potRead 66 = .ok (.invokevirtual 191, 3) := by decide +kernel
theorem dX12_potRead_69 : decode cX12_potRead 69 = .ok (.ireturn, 1) := by decide +kernel
theorem dX12_potRead_70 : decode cX12_potRead 70 = .ok (.aload_n 0, 1) := by decide +kernel
theorem dX12_potRead_71 : decode cX12_potRead 71 = .ok (.aload_n 0, 1) := by decide +kernel
theorem dX12_potRead_72 : decode cX12_potRead 72 = .ok (.getfield 161, 3) := by decide +kernel
theorem dX12_potRead_75 : decode cX12_potRead 75 = .ok (.invokevirtual 197, 3) := by decide +kernel
theorem dX12_potRead_78 : decode cX12_potRead 78 = .ok (.ifCond .lt 9, 3) := by decide +kernel
theorem dX12_potRead_81 : decode cX12_potRead 81 = .ok (.aload_n 0, 1) := by decide +kernel
theorem dX12_potRead_82 : decode cX12_potRead 82 = .ok (.iconst 3, 1) := by decide +kernel
theorem dX12_potRead_83 : decode cX12_potRead 83 = .ok (.invokevirtual 191, 3) := by decide +kernel
theorem dX12_potRead_86 : decode cX12_potRead 86 = .ok (.ireturn, 1) := by decide +kernel
theorem dX12_potRead_87 : decode cX12_potRead 87 = .ok (.aload_n 0, 1) := by decide +kernel
theorem dX12_potRead_88 : decode cX12_potRead 88 = .ok (.getfield 32, 3) := by decide +kernel
theorem dX12_potRead_91 : decode cX12_potRead 91 = .ok (.aload_n 0, 1) := by decide +kernel
theorem dX12_potRead_92 : decode cX12_potRead 92 = .ok (.getfield 176, 3) := by decide +kernel
theorem dX12_potRead_95 : decode cX12_potRead 95 = .ok (.aload_n 0, 1) := by decide +kernel
theorem dX12_potRead_96 : decode cX12_potRead 96 = .ok (.getfield 161, 3) := by decide +kernel
theorem dX12_potRead_99 : decode cX12_potRead 99 = .ok (.iastore, 1) := by decide +kernel
theorem dX12_potRead_100 : decode cX12_potRead 100 = .ok (.aload_n 0, 1) := by decide +kernel
theorem dX12_potRead_101 : decode cX12_potRead 101 = .ok (.dup, 1) := by decide +kernel
theorem dX12_potRead_102 : decode cX12_potRead 102 = .ok (.getfield 176, 3) := by decide +kernel
theorem dX12_potRead_105 : decode cX12_potRead 105 = .ok (.iconst 1, 1) := by decide +kernel
theorem dX12_potRead_106 : decode cX12_potRead 106 = .ok (.iadd, 1) := by decide +kernel
theorem dX12_potRead_107 : decode cX12_potRead 107 = .ok (.putfield 176, 3) := by decide +kernel
theorem dX12_potRead_110 : decode cX12_potRead 110 = .ok (.iinc 1 1, 3) := by decide +kernel
theorem dX12_potRead_113 : decode cX12_potRead 113 = .ok (.aload_n 0, 1) := by decide +kernel
theorem dX12_potRead_114 : decode cX12_potRead 114 = .ok (.invokevirtual 194, 3) := by decide +kernel
theorem dX12_potRead_117 : decode cX12_potRead 117 = .ok (.goto (-69), 3) := by decide +kernel
theorem dX12_potRead_120 : decode cX12_potRead 120 = .ok (.aload_n 0, 1) := by decide +kernel
theorem dX12_potRead_121 : decode cX12_potRead 121 = .ok (.getfield 150, 3) := by decide +kernel
theorem dX12_potRead_124 : decode cX12_potRead 124 = .ok (.iconst 4, 1) := by decide +kernel
theorem dX12_potRead_125 : decode cX12_potRead 125 = .ok (.if_icmp .eq 9, 3) := by decide +kernel
theorem dX12_potRead_128 : decode cX12_potRead 128 = .ok (.aload_n 0, 1) := by decide +kernel
theorem dX12_potRead_129 : decode cX12_potRead 129 = .ok (.iconst 1, 1) := by decide +kernel
theorem dX12_potRead_130 : decode cX12_potRead 130 = .ok (.invokevirtual 191, 3) := by decide +kernel
theorem dX12_potRead_133 : decode cX12_potRead 133 = .ok (.ireturn, 1) := by decide +kernel
theorem dX12_potRead_134 : decode cX12_potRead 134 = .ok (.aload_n 0, 1) := by decide +kernel
theorem dX12_potRead_135 : decode cX12_potRead 135 = .ok (.dup, 1) := by decide +kernel
theorem dX12_potRead_136 : decode cX12_potRead 136 = .ok (.getfield 173, 3) := by decide +kernel
theorem dX12_potRead_139 : decode cX12_potRead 139 = .ok (.iconst 1, 1) := by decide +kernel
theorem dX12_potRead_140 : decode cX12_potRead 140 = .ok (.iadd, 1) := by decide +kernel
theorem dX12_potRead_141 : decode cX12_potRead 141 = .ok (.putfield 173, 3) := by decide +kernel
theorem dX12_potRead_144 : decode cX12_potRead 144 = .ok (.iload_n 1, 1) := by decide +kernel
theorem dX12_potRead_145 : decode cX12_potRead 145 = .ok (.aload_n 0, 1) := by decide +kernel
theorem dX12_potRead_146 : decode cX12_potRead 146 = .ok (.getfield 170, 3) := by decide +kernel
theorem dX12_potRead_149 : decode cX12_potRead 149 = .ok (.if_icmp .eq 11, 3) := by decide +kernel
theorem dX12_potRead_152 : decode cX12_potRead 152 = .ok (.aload_n 0, 1) := by decide +kernel
theorem dX12_potRead_153 : decode cX12_potRead 153 = .ok (.iconst 5, 1) := by decide +kernel
theorem dX12_potRead_154 : decode cX12_potRead 154 = .ok (.invokevirtual 191, 3) := by decide +kernel
theorem dX12_potRead_157 : decode cX12_potRead 157 = .ok (.ifCond .eq 7, 3) := by decide +kernel
theorem dX12_potRead_160 : decode cX12_potRead 160 = .ok (.iconst 1, 1) := by decide +kernel
theorem dX12_potRead_161 : decode cX12_potRead 161 = .ok (.goto 4, 3) := by decide +kernel
theorem dX12_potRead_164 : decode cX12_potRead 164 = .ok (.iconst 0, 1) := by decide +kernel
theorem dX12_potRead_165 : decode cX12_potRead 165 = .ok (.ireturn, 1) := by decide +kernel
theorem dX12_markLine_0 : decode cX12_markLine 0 = .ok (.aload_n 0, 1) := by decide +kernel
theorem dX12_markLine_1 : decode cX12_markLine 1 = .ok (.getfield 179, 3) := by decide +kernel
theorem dX12_markLine_4 : decode cX12_markLine 4 = .ok (.bipush 6, 2) := by decide +kernel
theorem dX12_markLine_6 : decode cX12_markLine 6 = .ok (.if_icmp .ne 9, 3) := by decide +kernel
theorem dX12_markLine_9 : decode cX12_markLine 9 = .ok (.aload_n 0, 1) := by decide +kernel
theorem dX12_markLine_10 : decode cX12_markLine 10 = .ok (.iconst 2, 1) := by decide +kernel
theorem dX12_markLine_11 : decode cX12_markLine 11 = .ok (.invokevirtual 191, 3) := by decide +kernel
theorem dX12_markLine_14 : decode cX12_markLine 14 = .ok (.ireturn, 1) := by decide +kernel
theorem dX12_markLine_15 : decode cX12_markLine 15 = .ok (.aload_n 0, 1) := by decide +kernel
theorem dX12_markLine_16 : decode cX12_markLine 16 = .ok (.invokevirtual 194, 3) := by decide +kernel
theorem dX12_markLine_19 : decode cX12_markLine 19 = .ok (.aload_n 0, 1) := by decide +kernel
theorem dX12_markLine_20 : decode cX12_markLine 20 = .ok (.getfield 150, 3) := by decide +kernel
theorem dX12_markLine_23 : decode cX12_markLine 23 = .ok (.iconst 2, 1) := by decide +kernel
theorem dX12_markLine_24 : decode cX12_markLine 24 = .ok (.if_icmp .eq 9, 3) := by decide +kernel
theorem dX12_markLine_27 : decode cX12_markLine 27 = .ok (.aload_n 0, 1) := by decide +kernel
theorem dX12_markLine_28 : decode cX12_markLine 28 = .ok (.iconst 1, 1) := by decide +kernel
theorem dX12_markLine_29 : decode cX12_markLine 29 = .ok (.invokevirtual 191, 3) := by decide +kernel
theorem dX12_markLine_32 : decode cX12_markLine 32 = .ok (.ireturn, 1) := by decide +kernel
theorem dX12_markLine_33 : decode cX12_markLine 33 = .ok (.aload_n 0, 1) := by decide +kernel
theorem dX12_markLine_34 : decode cX12_markLine 34 = .ok (.aload_n 0, 1) := by decide +kernel
theorem dX12_markLine_35 : decode cX12_markLine 35 = .ok (.getfield 161, 3) := by decide +kernel
theorem dX12_markLine_38 : decode cX12_markLine 38 = .ok (.invokevirtual 201, 3) := by decide +kernel
theorem dX12_markLine_41 : decode cX12_markLine 41 = .ok (.ifCond .lt 9, 3) := by decide +kernel
theorem dX12_markLine_44 : decode cX12_markLine 44 = .ok (.aload_n 0, 1) := by decide +kernel
theorem dX12_markLine_45 : decode cX12_markLine 45 = .ok (.iconst 3, 1) := by decide +kernel
theorem dX12_markLine_46 : decode cX12_markLine 46 = .ok (.invokevirtual 191, 3) := by decide +kernel
theorem dX12_markLine_49 : decode cX12_markLine 49 = .ok (.ireturn, 1) := by decide +kernel
theorem dX12_markLine_50 : decode cX12_markLine 50 = .ok (.aload_n 0, 1) := by decide +kernel
theorem dX12_markLine_51 : decode cX12_markLine 51 = .ok (.getfield 161, 3) := by decide +kernel
theorem dX12_markLine_54 : decode cX12_markLine 54 = .ok (.istore_n 1, 1) := by decide +kernel
theorem dX12_markLine_55 : decode cX12_markLine 55 = .ok (.aload_n 0, 1) := by decide +kernel
theorem dX12_markLine_56 : decode cX12_markLine 56 = .ok (.invokevirtual 194, 3) := by decide +kernel
theorem dX12_markLine_59 : decode cX12_markLine 59 = .ok (.aload_n 0, 1) := by decide +kernel
theorem dX12_markLine_60 : decode cX12_markLine 60 = .ok (.getfield 150, 3) := by decide +kernel
theorem dX12_markLine_63 : decode cX12_markLine 63 = .ok (.iconst 2, 1) := by decide +kernel
theorem dX12_markLine_64 : decode cX12_markLine 64 = .ok (.if_icmp .eq 9, 3) := by decide +kernel
theorem dX12_markLine_67 : decode cX12_markLine 67 = .ok (.aload_n 0, 1) := by decide +kernel
theorem dX12_markLine_68 : decode cX12_markLine 68 = .ok (.iconst 1, 1) := by decide +kernel
theorem dX12_markLine_69 : decode cX12_markLine 69 = .ok (.invokevirtual 191, 3) := by decide +kernel
theorem dX12_markLine_72 : decode cX12_markLine 72 = .ok (.ireturn, 1) := by decide +kernel
theorem dX12_markLine_73 : decode cX12_markLine 73 = .ok (.iconst 0, 1) := by decide +kernel
theorem dX12_markLine_74 : decode cX12_markLine 74 = .ok (.istore_n 2, 1) := by decide +kernel
theorem dX12_markLine_75 : decode cX12_markLine 75 = .ok (.aload_n 0, 1) := by decide +kernel
theorem dX12_markLine_76 : decode cX12_markLine 76 = .ok (.getfield 150, 3) := by decide +kernel
theorem dX12_markLine_79 : decode cX12_markLine 79 = .ok (.iconst 2, 1) := by decide +kernel
theorem dX12_markLine_80 : decode cX12_markLine 80 = .ok (.if_icmp .ne 50, 3) := by decide +kernel
theorem dX12_markLine_83 : decode cX12_markLine 83 = .ok (.aload_n 0, 1) := by decide +kernel
theorem dX12_markLine_84 : decode cX12_markLine 84 = .ok (.aload_n 0, 1) := by decide +kernel
theorem dX12_markLine_85 : decode cX12_markLine 85 = .ok (.getfield 161, 3) := by decide +kernel
theorem dX12_markLine_88 : decode cX12_markLine 88 = .ok (.invokevirtual 197, 3) := by decide +kernel
theorem dX12_markLine_91 : decode cX12_markLine 91 = .ok (.istore_n 3, 1) := by decide +kernel
theorem dX12_markLine_92 : decode cX12_markLine 92 = .ok (.iload_n 3, 1) := by decide +kernel
theorem dX12_markLine_93 : decode cX12_markLine 93 = .ok (.ifCond .ge 9, 3) := by decide +kernel
theorem dX12_markLine_96 : decode cX12_markLine 96 = .ok (.aload_n 0, 1) := by decide +kernel
theorem dX12_markLine_97 : decode cX12_markLine 97 = .ok (.iconst 4, 1) := by decide +kernel
theorem dX12_markLine_98 : decode cX12_markLine 98 = .ok (.invokevirtual 191, 3) := by decide +kernel
theorem dX12_markLine_101 : decode cX12_markLine 101 = .ok (.ireturn, 1) := by decide +kernel
theorem dX12_markLine_102 : decode cX12_markLine 102 = .ok (.iload_n 2, 1) := by decide +kernel
theorem dX12_markLine_103 : decode cX12_markLine 103 = .ok (.iload_n 3, 1) := by decide +kernel
theorem dX12_markLine_104 : decode cX12_markLine 104 = .ok (.ishr, 1) := by decide +kernel
theorem dX12_markLine_105 : decode cX12_markLine 105 = .ok (.iconst 1, 1) := by decide +kernel
theorem dX12_markLine_106 : decode cX12_markLine 106 = .ok (.iand, 1) := by decide +kernel
theorem dX12_markLine_107 : decode cX12_markLine 107 = .ok (.iconst 1, 1) := by decide +kernel
theorem dX12_markLine_108 : decode cX12_markLine 108 = .ok (.if_icmp .ne 9, 3) := by decide +kernel
theorem dX12_markLine_111 : decode cX12_markLine 111 = .ok (.aload_n 0, 1) := by decide +kernel
theorem dX12_markLine_112 : decode cX12_markLine 112 = .ok (.iconst 3, 1) := by decide +kernel
theorem dX12_markLine_113 : decode cX12_markLine 113 = .ok (.invokevirtual 191, 3) := by decide +kernel
theorem dX12_markLine_116 : decode cX12_markLine 116 = .ok (.ireturn, 1) := by decide +kernel
theorem dX12_markLine_117 : decode cX12_markLine 117 = .ok (.iload_n 2, 1) := by decide +kernel
theorem dX12_markLine_118 : decode cX12_markLine 118 = .ok (.iconst 1, 1) := by decide +kernel
theorem dX12_markLine_119 : decode cX12_markLine 119 = .ok (.iload_n 3, 1) := by decide +kernel
theorem dX12_markLine_120 : decode cX12_markLine 120 = .ok (.ishl, 1) := by decide +kernel
theorem dX12_markLine_121 : decode cX12_markLine 121 = .ok (.ior, 1) := by decide +kernel
theorem dX12_markLine_122 : decode cX12_markLine 122 = .ok (.istore_n 2, 1) := by decide +kernel
theorem dX12_markLine_123 : decode cX12_markLine 123 = .ok (.aload_n 0, 1) := by decide +kernel
theorem dX12_markLine_124 : decode cX12_markLine 124 = .ok (.invokevirtual 194, 3) := by decide +kernel
theorem dX12_markLine_127 : decode cX12_markLine 127 = .ok (.goto (-52), 3) := by decide +kernel
theorem dX12_markLine_130 : decode cX12_markLine 130 = .ok (.aload_n 0, 1) := by decide +kernel
theorem dX12_markLine_131 : decode cX12_markLine 131 = .ok (.getfield 35, 3) := by decide +kernel
theorem dX12_markLine_134 : decode cX12_markLine 134 = .ok (.aload_n 0, 1) := by decide +kernel
theorem dX12_markLine_135 : decode cX12_markLine 135 = .ok (.getfield 179, 3) := by decide +kernel
theorem dX12_markLine_138 : decode cX12_markLine 138 = .ok (.iload_n 1, 1) := by decide +kernel
theorem dX12_markLine_139 : decode cX12_markLine 139 = .ok (.iastore, 1) := by decide +kernel
theorem dX12_markLine_140 : decode cX12_markLine 140 = .ok (.aload_n 0, 1) := by decide +kernel
theorem dX12_markLine_141 : decode cX12_markLine 141 = .ok (.getfield 38, 3) := by decide +kernel
theorem dX12_markLine_144 : decode cX12_markLine 144 = .ok (.aload_n 0, 1) := by decide +kernel
theorem dX12_markLine_145 : decode cX12_markLine 145 = .ok (.getfield 179, 3) := by decide +kernel
theorem dX12_markLine_148 : decode cX12_markLine 148 = .ok (.iload_n 2, 1) := by decide +kernel
theorem dX12_markLine_149 : decode cX12_markLine 149 = .ok (.iastore, 1) := by decide +kernel
theorem dX12_markLine_150 : decode cX12_markLine 150 = .ok (.aload_n 0, 1) := by decide +kernel
theorem dX12_markLine_151 : decode cX12_markLine 151 = .ok (.dup, 1) := by decide +kernel
theorem dX12_markLine_152 : decode cX12_markLine 152 = .ok (.getfield 179, 3) := by decide +kernel
theorem dX12_markLine_155 : decode cX12_markLine 155 = .ok (.iconst 1, 1) := by decide +kernel
theorem dX12_markLine_156 : decode cX12_markLine 156 = .ok (.iadd, 1) := by decide +kernel
theorem dX12_markLine_157 : decode cX12_markLine 157 = .ok (.putfield 179, 3) := by decide +kernel
theorem dX12_markLine_160 : decode cX12_markLine 160 = .ok (.iconst 1, 1) := by decide +kernel
theorem dX12_markLine_161 : decode cX12_markLine 161 = .ok (.ireturn, 1) := by decide +kernel
theorem dX12_barLine_0 : decode cX12_barLine 0 = .ok (.aload_n 0, 1) := by decide +kernel
theorem dX12_barLine_1 : decode cX12_barLine 1 = .ok (.getfield 182, 3) := by decide +kernel
theorem dX12_barLine_4 : decode cX12_barLine 4 = .ok (.bipush 10, 2) := by decide +kernel
theorem dX12_barLine_6 : decode cX12_barLine 6 = .ok (.if_icmp .ne 9, 3) := by decide +kernel
theorem dX12_barLine_9 : decode cX12_barLine 9 = .ok (.aload_n 0, 1) := by decide +kernel
theorem dX12_barLine_10 : decode cX12_barLine 10 = .ok (.iconst 2, 1) := by decide +kernel
theorem dX12_barLine_11 : decode cX12_barLine 11 = .ok (.invokevirtual 191, 3) := by decide +kernel
theorem dX12_barLine_14 : decode cX12_barLine 14 = .ok (.ireturn, 1) := by decide +kernel
theorem dX12_barLine_15 : decode cX12_barLine 15 = .ok (.aload_n 0, 1) := by decide +kernel
theorem dX12_barLine_16 : decode cX12_barLine 16 = .ok (.invokevirtual 194, 3) := by decide +kernel
theorem dX12_barLine_19 : decode cX12_barLine 19 = .ok (.iconst 0, 1) := by decide +kernel
theorem dX12_barLine_20 : decode cX12_barLine 20 = .ok (.istore_n 2, 1) := by decide +kernel
theorem dX12_barLine_21 : decode cX12_barLine 21 = .ok (.iconst 0, 1) := by decide +kernel
theorem dX12_barLine_22 : decode cX12_barLine 22 = .ok (.istore_n 3, 1) := by decide +kernel
theorem dX12_barLine_23 : decode cX12_barLine 23 = .ok (.iload_n 1, 1) := by decide +kernel
theorem dX12_barLine_24 : decode cX12_barLine 24 = .ok (.ifCond .ne 56, 3) := by decide +kernel
theorem dX12_barLine_27 : decode cX12_barLine 27 = .ok (.aload_n 0, 1) := by decide +kernel
theorem dX12_barLine_28 : decode cX12_barLine 28 = .ok (.iconst 1, 1) := by decide +kernel
theorem dX12_barLine_29 : decode cX12_barLine 29 = .ok (.iconst 3, 1) := by decide +kernel
theorem dX12_barLine_30 : decode cX12_barLine 30 = .ok (.invokevirtual 204, 3) := by decide +kernel
theorem dX12_barLine_33 : decode cX12_barLine 33 = .ok (.ifCond .ne 5, 3) := by decide +kernel
theorem dX12_barLine_36 : decode cX12_barLine 36 = .ok (.iconst 0, 1) := by decide +kernel
theorem dX12_barLine_37 : decode cX12_barLine 37 = .ok (.ireturn, 1) := by decide +kernel
theorem dX12_barLine_38 : decode cX12_barLine 38 = .ok (.aload_n 0, 1) := by decide +kernel
theorem dX12_barLine_39 : decode cX12_barLine 39 = .ok (.getfield 161, 3) := by decide +kernel
theorem dX12_barLine_42 : decode cX12_barLine 42 = .ok (.istore_n 2, 1) := by decide +kernel
theorem dX12_barLine_43 : decode cX12_barLine 43 = .ok (.aload_n 0, 1) := by decide +kernel
theorem dX12_barLine_44 : decode cX12_barLine 44 = .ok (.invokevirtual 194, 3) := by decide +kernel
theorem dX12_barLine_47 : decode cX12_barLine 47 = .ok (.aload_n 0, 1) := by decide +kernel
theorem dX12_barLine_48 : decode cX12_barLine 48 = .ok (.getfield 150, 3) := by decide +kernel
theorem dX12_barLine_51 : decode cX12_barLine 51 = .ok (.iconst 2, 1) := by decide +kernel
theorem dX12_barLine_52 : decode cX12_barLine 52 = .ok (.if_icmp .eq 9, 3) := by decide +kernel
theorem dX12_barLine_55 : decode cX12_barLine 55 = .ok (.aload_n 0, 1) := by decide +kernel
theorem dX12_barLine_56 : decode cX12_barLine 56 = .ok (.iconst 1, 1) := by decide +kernel
theorem dX12_barLine_57 : decode cX12_barLine 57 = .ok (.invokevirtual 191, 3) := by decide +kernel
theorem dX12_barLine_60 : decode cX12_barLine 60 = .ok (.ireturn, 1) := by decide +kernel
theorem dX12_barLine_61 : decode cX12_barLine 61 = .ok (.aload_n 0, 1) := by decide +kernel
theorem dX12_barLine_62 : decode cX12_barLine 62 = .ok (.aload_n 0, 1) := by decide +kernel
theorem dX12_barLine_63 : decode cX12_barLine 63 = .ok (.getfield 161, 3) := by decide +kernel
theorem dX12_barLine_66 : decode cX12_barLine 66 = .ok (.invokevirtual 201, 3) := by decide +kernel
theorem dX12_barLine_69 : decode cX12_barLine 69 = .ok (.istore_n 3, 1) := by decide +kernel
theorem dX12_barLine_70 : decode cX12_barLine 70 = .ok (.iload_n 3, 1) := by decide +kernel
theorem dX12_barLine_71 : decode cX12_barLine 71 = .ok (.ifCond .ge 116, 3) := by decide +kernel
theorem dX12_barLine_74 : decode cX12_barLine 74 = .ok (.aload_n 0, 1) := by decide +kernel
theorem dX12_barLine_75 : decode cX12_barLine 75 = .ok (.iconst 4, 1) := by decide +kernel
theorem dX12_barLine_76 : decode cX12_barLine 76 = .ok (.invokevirtual 191, 3) := by decide +kernel
theorem dX12_barLine_79 : decode cX12_barLine 79 = .ok (.ireturn, 1) := by decide +kernel
theorem dX12_barLine_80 : decode cX12_barLine 80 = .ok (.aload_n 0, 1) := by decide +kernel
theorem dX12_barLine_81 : decode cX12_barLine 81 = .ok (.getfield 150, 3) := by decide +kernel
theorem dX12_barLine_84 : decode cX12_barLine 84 = .ok (.iconst 2, 1) := by decide +kernel
theorem dX12_barLine_85 : decode cX12_barLine 85 = .ok (.if_icmp .eq 9, 3) := by decide +kernel
theorem dX12_barLine_88 : decode cX12_barLine 88 = .ok (.aload_n 0, 1) := by decide +kernel
theorem dX12_barLine_89 : decode cX12_barLine 89 = .ok (.iconst 1, 1) := by decide +kernel
theorem dX12_barLine_90 : decode cX12_barLine 90 = .ok (.invokevirtual 191, 3) := by decide +kernel
theorem dX12_barLine_93 : decode cX12_barLine 93 = .ok (.ireturn, 1) := by decide +kernel
theorem dX12_barLine_94 : decode cX12_barLine 94 = .ok (.aload_n 0, 1) := by decide +kernel
theorem dX12_barLine_95 : decode cX12_barLine 95 = .ok (.aload_n 0, 1) := by decide +kernel
theorem dX12_barLine_96 : decode cX12_barLine 96 = .ok (.getfield 161, 3) := by decide +kernel
theorem dX12_barLine_99 : decode cX12_barLine 99 = .ok (.invokevirtual 197, 3) := by decide +kernel
theorem dX12_barLine_102 : decode cX12_barLine 102 = .ok (.istore_n 2, 1) := by decide +kernel
theorem dX12_barLine_103 : decode cX12_barLine 103 = .ok (.iload_n 2, 1) := by decide +kernel
theorem dX12_barLine_104 : decode cX12_barLine 104 = .ok (.ifCond .ge 9, 3) := by decide +kernel
theorem dX12_barLine_107 : decode cX12_barLine 107 = .ok (.aload_n 0, 1) := by decide +kernel
theorem dX12_barLine_108 : decode cX12_barLine 108 = .ok (.iconst 4, 1) := by decide +kernel
theorem dX12_barLine_109 : decode cX12_barLine 109 = .ok (.invokevirtual 191, 3) := by decide +kernel
theorem dX12_barLine_112 : decode cX12_barLine 112 = .ok (.ireturn, 1) := by decide +kernel
theorem dX12_barLine_113 : decode cX12_barLine 113 = .ok (.aload_n 0, 1) := by decide +kernel
theorem dX12_barLine_114 : decode cX12_barLine 114 = .ok (.invokevirtual 194, 3) := by decide +kernel
theorem dX12_barLine_117 : decode cX12_barLine 117 = .ok (.iload_n 1, 1) := by decide +kernel
theorem dX12_barLine_118 : decode cX12_barLine 118 = .ok (.iconst 1, 1) := by decide +kernel
theorem dX12_barLine_119 : decode cX12_barLine 119 = .ok (.if_icmp .ne 47, 3) := by decide +kernel
theorem dX12_barLine_122 : decode cX12_barLine 122 = .ok (.aload_n 0, 1) := by decide +kernel
theorem dX12_barLine_123 : decode cX12_barLine 123 = .ok (.getfield 150, 3) := by decide +kernel
theorem dX12_barLine_126 : decode cX12_barLine 126 = .ok (.iconst 2, 1) := by decide +kernel
theorem dX12_barLine_127 : decode cX12_barLine 127 = .ok (.if_icmp .eq 9, 3) := by decide +kernel
theorem dX12_barLine_130 : decode cX12_barLine 130 = .ok (.aload_n 0, 1) := by decide +kernel
theorem dX12_barLine_131 : decode cX12_barLine 131 = .ok (.iconst 1, 1) := by decide +kernel
theorem dX12_barLine_132 : decode cX12_barLine 132 = .ok (.invokevirtual 191, 3) := by decide +kernel
theorem dX12_barLine_135 : decode cX12_barLine 135 = .ok (.ireturn, 1) := by decide +kernel
theorem dX12_barLine_136 : decode cX12_barLine 136 = .ok (.aload_n 0, 1) := by decide +kernel
theorem dX12_barLine_137 : decode cX12_barLine 137 = .ok (.aload_n 0, 1) := by decide +kernel
theorem dX12_barLine_138 : decode cX12_barLine 138 = .ok (.getfield 161, 3) := by decide +kernel
theorem dX12_barLine_141 : decode cX12_barLine 141 = .ok (.invokevirtual 197, 3) := by decide +kernel
theorem dX12_barLine_144 : decode cX12_barLine 144 = .ok (.istore_n 3, 1) := by decide +kernel
theorem dX12_barLine_145 : decode cX12_barLine 145 = .ok (.iload_n 3, 1) := by decide +kernel
theorem dX12_barLine_146 : decode cX12_barLine 146 = .ok (.ifCond .ge 9, 3) := by decide +kernel
theorem dX12_barLine_149 : decode cX12_barLine 149 = .ok (.aload_n 0, 1) := by decide +kernel
theorem dX12_barLine_150 : decode cX12_barLine 150 = .ok (.iconst 4, 1) := by decide +kernel
theorem dX12_barLine_151 : decode cX12_barLine 151 = .ok (.invokevirtual 191, 3) := by decide +kernel
theorem dX12_barLine_154 : decode cX12_barLine 154 = .ok (.ireturn, 1) := by decide +kernel
theorem dX12_barLine_155 : decode cX12_barLine 155 = .ok (.iload_n 3, 1) := by decide +kernel
theorem dX12_barLine_156 : decode cX12_barLine 156 = .ok (.iload_n 2, 1) := by decide +kernel
theorem dX12_barLine_157 : decode cX12_barLine 157 = .ok (.if_icmp .ne 30, 3) := by decide +kernel
theorem dX12_barLine_160 : decode cX12_barLine 160 = .ok (.aload_n 0, 1) := by decide +kernel
theorem dX12_barLine_161 : decode cX12_barLine 161 = .ok (.iconst 3, 1) := by decide +kernel
theorem dX12_barLine_162 : decode cX12_barLine 162 = .ok (.invokevirtual 191, 3) := by decide +kernel
theorem dX12_barLine_165 : decode cX12_barLine 165 = .ok (.ireturn, 1) := by decide +kernel
theorem dX12_barLine_166 : decode cX12_barLine 166 = .ok (.aload_n 0, 1) := by decide +kernel
theorem dX12_barLine_167 : decode cX12_barLine 167 = .ok (.iconst 0, 1) := by decide +kernel
theorem dX12_barLine_168 : decode cX12_barLine 168 = .ok (.aload_n 0, 1) := by decide +kernel
theorem dX12_barLine_169 : decode cX12_barLine 169 = .ok (.getfield 170, 3) := by decide +kernel
theorem dX12_barLine_172 : decode cX12_barLine 172 = .ok (.iconst 1, 1) := by decide +kernel
theorem dX12_barLine_173 : decode cX12_barLine 173 = .ok (.isub, 1) := by decide +kernel
theorem dX12_barLine_174 : decode cX12_barLine 174 = .ok (.invokevirtual 204, 3) := by decide +kernel
theorem dX12_barLine_177 : decode cX12_barLine 177 = .ok (.ifCond .ne 5, 3) := by decide +kernel
theorem dX12_barLine_180 : decode cX12_barLine 180 = .ok (.iconst 0, 1) := by decide +kernel
theorem dX12_barLine_181 : decode cX12_barLine 181 = .ok (.ireturn, 1) := by decide +kernel
theorem dX12_barLine_182 : decode cX12_barLine 182 = .ok (.aload_n 0, 1) := by decide +kernel
theorem dX12_barLine_183 : decode cX12_barLine 183 = .ok (.getfield 161, 3) := by decide +kernel
theorem dX12_barLine_186 : decode cX12_barLine 186 = .ok (.istore_n 3, 1) := by decide +kernel
theorem dX12_barLine_187 : decode cX12_barLine 187 = .ok (.aload_n 0, 1) := by decide +kernel
theorem dX12_barLine_188 : decode cX12_barLine 188 = .ok (.invokevirtual 194, 3) := by decide +kernel
theorem dX12_barLine_191 : decode cX12_barLine 191 = .ok (.aload_n 0, 1) := by decide +kernel
theorem dX12_barLine_192 : decode cX12_barLine 192 = .ok (.getfield 41, 3) := by decide +kernel
theorem dX12_barLine_195 : decode cX12_barLine 195 = .ok (.iconst 3, 1) := by decide +kernel
theorem dX12_barLine_196 : decode cX12_barLine 196 = .ok (.aload_n 0, 1) := by decide +kernel
theorem dX12_barLine_197 : decode cX12_barLine 197 = .ok (.getfield 182, 3) := by decide +kernel
theorem dX12_barLine_200 : decode cX12_barLine 200 = .ok (.imul, 1) := by decide +kernel
theorem dX12_barLine_201 : decode cX12_barLine 201 = .ok (.iload_n 1, 1) := by decide +kernel
theorem dX12_barLine_202 : decode cX12_barLine 202 = .ok (.iastore, 1) := by decide +kernel
theorem dX12_barLine_203 : decode cX12_barLine 203 = .ok (.aload_n 0, 1) := by decide +kernel
theorem dX12_barLine_204 : decode cX12_barLine 204 = .ok (.getfield 41, 3) := by decide +kernel
theorem dX12_barLine_207 : decode cX12_barLine 207 = .ok (.iconst 3, 1) := by decide +kernel
theorem dX12_barLine_208 : decode cX12_barLine 208 = .ok (.aload_n 0, 1) := by decide +kernel
theorem dX12_barLine_209 : decode cX12_barLine 209 = .ok (.getfield 182, 3) := by decide +kernel
theorem dX12_barLine_212 : decode cX12_barLine 212 = .ok (.imul, 1) := by decide +kernel
theorem dX12_barLine_213 : decode cX12_barLine 213 = .ok (.iconst 1, 1) := by decide +kernel
theorem dX12_barLine_214 : decode cX12_barLine 214 = .ok (.iadd, 1) := by decide +kernel
theorem dX12_barLine_215 : decode cX12_barLine 215 = .ok (.iload_n 2, 1) := by decide +kernel
theorem dX12_barLine_216 : decode cX12_barLine 216 = .ok (.iastore, 1) := by decide +kernel
theorem dX12_barLine_217 : decode cX12_barLine 217 = .ok (.aload_n 0, 1) := by decide +kernel
theorem dX12_barLine_218 : decode cX12_barLine 218 = .ok (.getfield 41, 3) := by decide +kernel
theorem dX12_barLine_221 : decode cX12_barLine 221 = .ok (.iconst 3, 1) := by decide +kernel
theorem dX12_barLine_222 : decode cX12_barLine 222 = .ok (.aload_n 0, 1) := by decide +kernel
theorem dX12_barLine_223 : decode cX12_barLine 223 = .ok (.getfield 182, 3) := by decide +kernel
theorem dX12_barLine_226 : decode cX12_barLine 226 = .ok (.imul, 1) := by decide +kernel
theorem dX12_barLine_227 : decode cX12_barLine 227 = .ok (.iconst 2, 1) := by decide +kernel
theorem dX12_barLine_228 : decode cX12_barLine 228 = .ok (.iadd, 1) := by decide +kernel
theorem dX12_barLine_229 : decode cX12_barLine 229 = .ok (.iload_n 3, 1) := by decide +kernel
theorem dX12_barLine_230 : decode cX12_barLine 230 = .ok (.iastore, 1) := by decide +kernel
theorem dX12_barLine_231 : decode cX12_barLine 231 = .ok (.aload_n 0, 1) := by decide +kernel
theorem dX12_barLine_232 : decode cX12_barLine 232 = .ok (.dup, 1) := by decide +kernel
theorem dX12_barLine_233 : decode cX12_barLine 233 = .ok (.getfield 182, 3) := by decide +kernel
theorem dX12_barLine_236 : decode cX12_barLine 236 = .ok (.iconst 1, 1) := by decide +kernel
theorem dX12_barLine_237 : decode cX12_barLine 237 = .ok (.iadd, 1) := by decide +kernel
theorem dX12_barLine_238 : decode cX12_barLine 238 = .ok (.putfield 182, 3) := by decide +kernel
theorem dX12_barLine_241 : decode cX12_barLine 241 = .ok (.iconst 1, 1) := by decide +kernel
theorem dX12_barLine_242 : decode cX12_barLine 242 = .ok (.ireturn, 1) := by decide +kernel
theorem dX12_lineRead_0 : decode cX12_lineRead 0 = .ok (.aload_n 0, 1) := by decide +kernel
theorem dX12_lineRead_1 : decode cX12_lineRead 1 = .ok (.getfield 150, 3) := by decide +kernel
theorem dX12_lineRead_4 : decode cX12_lineRead 4 = .ok (.iconst 1, 1) := by decide +kernel
theorem dX12_lineRead_5 : decode cX12_lineRead 5 = .ok (.if_icmp .ne 14, 3) := by decide +kernel
theorem dX12_lineRead_8 : decode cX12_lineRead 8 = .ok (.iload_n 1, 1) := by decide +kernel
theorem dX12_lineRead_9 : decode cX12_lineRead 9 = .ok (.ifCond .eq 16, 3) := by decide +kernel
theorem dX12_lineRead_12 : decode cX12_lineRead 12 = .ok (.aload_n 0, 1) := by decide +kernel
theorem dX12_lineRead_13 : decode cX12_lineRead 13 = .ok (.getfield 161, 3) := by decide +kernel
theorem dX12_lineRead_16 : decode cX12_lineRead 16 = .ok (.ifCond .eq 9, 3) := by decide +kernel
theorem dX12_lineRead_19 : decode cX12_lineRead 19 = .ok (.aload_n 0, 1) := by decide +kernel
theorem dX12_lineRead_20 : decode cX12_lineRead 20 = .ok (.iconst 1, 1) := by decide +kernel
theorem dX12_lineRead_21 : decode cX12_lineRead 21 = .ok (.invokevirtual 191, 3) := by decide +kernel
theorem dX12_lineRead_24 : decode cX12_lineRead 24 = .ok (.ireturn, 1) := by decide +kernel
theorem dX12_lineRead_25 : decode cX12_lineRead 25 = .ok (.aload_n 0, 1) := by decide +kernel
theorem dX12_lineRead_26 : decode cX12_lineRead 26 = .ok (.getfield 161, 3) := by decide +kernel
theorem dX12_lineRead_29 : decode cX12_lineRead 29 = .ok (.ifCond .ne 43, 3) := by decide +kernel
theorem dX12_lineRead_32 : decode cX12_lineRead 32 = .ok (.iload_n 1, 1) := by decide +kernel
theorem dX12_lineRead_33 : decode cX12_lineRead 33 = .ok (.ifCond .ne 9, 3) := by decide +kernel
theorem dX12_lineRead_36 : decode cX12_lineRead 36 = .ok (.aload_n 0, 1) := by decide +kernel
theorem dX12_lineRead_37 : decode cX12_lineRead 37 = .ok (.iconst 3, 1) := by decide +kernel
theorem dX12_lineRead_38 : decode cX12_lineRead 38 = .ok (.invokevirtual 191, 3) := by decide +kernel
theorem dX12_lineRead_41 : decode cX12_lineRead 41 = .ok (.ireturn, 1) := by decide +kernel
theorem dX12_lineRead_42 : decode cX12_lineRead 42 = .ok (.aload_n 0, 1) := by decide +kernel
theorem dX12_lineRead_43 : decode cX12_lineRead 43 = .ok (.invokevirtual 194, 3) := by decide +kernel
theorem dX12_lineRead_46 : decode cX12_lineRead 46 = .ok (.aload_n 0, 1) := by decide +kernel
theorem dX12_lineRead_47 : decode cX12_lineRead 47 = .ok (.iconst 2, 1) := by decide +kernel
theorem dX12_lineRead_48 : decode cX12_lineRead 48 = .ok (.iconst 4, 1) := by decide +kernel
theorem dX12_lineRead_49 : decode cX12_lineRead 49 = .ok (.invokevirtual 204, 3) := by decide +kernel
theorem dX12_lineRead_52 : decode cX12_lineRead 52 = .ok (.ifCond .ne 5, 3) := by decide +kernel
theorem dX12_lineRead_55 : decode cX12_lineRead 55 = .ok (.iconst 0, 1) := by decide +kernel
theorem dX12_lineRead_56 : decode cX12_lineRead 56 = .ok (.ireturn, 1) := by decide +kernel
theorem dX12_lineRead_57 : decode cX12_lineRead 57 = .ok (.aload_n 0, 1) := by decide +kernel
theorem dX12_lineRead_58 : decode cX12_lineRead 58 = .ok (.aload_n 0, 1) := by decide +kernel
theorem dX12_lineRead_59 : decode cX12_lineRead 59 = .ok (.getfield 161, 3) := by decide +kernel
theorem dX12_lineRead_62 : decode cX12_lineRead 62 = .ok (.putfield 170, 3) := by decide +kernel
theorem dX12_lineRead_65 : decode cX12_lineRead 65 = .ok (.aload_n 0, 1) := by decide +kernel
theorem dX12_lineRead_66 : decode cX12_lineRead 66 = .ok (.invokevirtual 194, 3) := by decide +kernel
theorem dX12_lineRead_69 : decode cX12_lineRead 69 = .ok (.goto 52, 3) := by decide +kernel
theorem dX12_lineRead_72 : decode cX12_lineRead 72 = .ok (.aload_n 0, 1) := by decide +kernel
theorem dX12_lineRead_73 : decode cX12_lineRead 73 = .ok (.getfield 161, 3) := by decide +kernel
theorem dX12_lineRead_76 : decode cX12_lineRead 76 = .ok (.iconst 1, 1) := by decide +kernel
theorem dX12_lineRead_77 : decode cX12_lineRead 77 = .ok (.if_icmp .ne 12, 3) := by decide +kernel
theorem dX12_lineRead_80 : decode cX12_lineRead 80 = .ok (.aload_n 0, 1) := by decide +kernel
theorem dX12_lineRead_81 : decode cX12_lineRead 81 = .ok (.invokevirtual 208, 3) := by decide +kernel
theorem dX12_lineRead_84 : decode cX12_lineRead 84 = .ok (.ifCond .ne 37, 3) := by decide +kernel
theorem dX12_lineRead_87 : decode cX12_lineRead 87 = .ok (.iconst 0, 1) := by decide +kernel
theorem dX12_lineRead_88 : decode cX12_lineRead 88 = .ok (.ireturn, 1) := by decide +kernel
theorem dX12_lineRead_89 : decode cX12_lineRead 89 = .ok (.aload_n 0, 1) := by decide +kernel
theorem dX12_lineRead_90 : decode cX12_lineRead 90 = .ok (.getfield 161, 3) := by decide +kernel
theorem dX12_lineRead_93 : decode cX12_lineRead 93 = .ok (.iconst 2, 1) := by decide +kernel
theorem dX12_lineRead_94 : decode cX12_lineRead 94 = .ok (.if_icmp .ne 12, 3) := by decide +kernel
theorem dX12_lineRead_97 : decode cX12_lineRead 97 = .ok (.aload_n 0, 1) := by decide +kernel
theorem dX12_lineRead_98 : decode cX12_lineRead 98 = .ok (.invokevirtual 212, 3) := by decide +kernel
theorem dX12_lineRead_101 : decode cX12_lineRead 101 = .ok (.ifCond .ne 20, 3) := by decide +kernel
theorem dX12_lineRead_104 : decode cX12_lineRead 104 = .ok (.iconst 0, 1) := by decide +kernel
theorem dX12_lineRead_105 : decode cX12_lineRead 105 = .ok (.ireturn, 1) := by decide +kernel
theorem dX12_lineRead_106 : decode cX12_lineRead 106 = .ok (.aload_n 0, 1) := by decide +kernel
theorem dX12_lineRead_107 : decode cX12_lineRead 107 = .ok (.aload_n 0, 1) := by decide +kernel
theorem dX12_lineRead_108 : decode cX12_lineRead 108 = .ok (.getfield 161, 3) := by decide +kernel
theorem dX12_lineRead_111 : decode cX12_lineRead 111 = .ok (.iconst 3, 1) := by decide +kernel
theorem dX12_lineRead_112 : decode cX12_lineRead 112 = .ok (.isub, 1) := by decide +kernel
theorem dX12_lineRead_113 : decode cX12_lineRead 113 = .ok (.invokevirtual 215, 3) := by decide +kernel
theorem dX12_lineRead_116 : decode cX12_lineRead 116 = .ok (.ifCond .ne 5, 3) := by decide +kernel
theorem dX12_lineRead_119 : decode cX12_lineRead 119 = .ok (.iconst 0, 1) := by decide +kernel
theorem dX12_lineRead_120 : decode cX12_lineRead 120 = .ok (.ireturn, 1) := by decide +kernel
theorem dX12_lineRead_121 : decode cX12_lineRead 121 = .ok (.aload_n 0, 1) := by decide +kernel
theorem dX12_lineRead_122 : decode cX12_lineRead 122 = .ok (.getfield 150, 3) := by decide +kernel
theorem dX12_lineRead_125 : decode cX12_lineRead 125 = .ok (.iconst 4, 1) := by decide +kernel
theorem dX12_lineRead_126 : decode cX12_lineRead 126 = .ok (.if_icmp .eq 9, 3) := by decide +kernel
theorem dX12_lineRead_129 : decode cX12_lineRead 129 = .ok (.aload_n 0, 1) := by decide +kernel
theorem dX12_lineRead_130 : decode cX12_lineRead 130 = .ok (.iconst 1, 1) := by decide +kernel
theorem dX12_lineRead_131 : decode cX12_lineRead 131 = .ok (.invokevirtual 191, 3) := by decide +kernel
theorem dX12_lineRead_134 : decode cX12_lineRead 134 = .ok (.ireturn, 1) := by decide +kernel
theorem dX12_lineRead_135 : decode cX12_lineRead 135 = .ok (.aload_n 0, 1) := by decide +kernel
theorem dX12_lineRead_136 : decode cX12_lineRead 136 = .ok (.invokevirtual 194, 3) := by decide +kernel
theorem dX12_lineRead_139 : decode cX12_lineRead 139 = .ok (.iconst 1, 1) := by decide +kernel
theorem dX12_lineRead_140 : decode cX12_lineRead 140 = .ok (.ireturn, 1) := by decide +kernel
theorem dX12_text_0 : decode cX12_text 0 = .ok (.aload_n 0, 1) := by decide +kernel
theorem dX12_text_1 : decode cX12_text 1 = .ok (.iconst 0, 1) := by decide +kernel
theorem dX12_text_2 : decode cX12_text 2 = .ok (.putfield 132, 3) := by decide +kernel
theorem dX12_text_5 : decode cX12_text 5 = .ok (.iload_n 1, 1) := by decide +kernel
theorem dX12_text_6 : decode cX12_text 6 = .ok (.ifCond .lt 11, 3) := by decide +kernel
theorem dX12_text_9 : decode cX12_text 9 = .ok (.iload_n 1, 1) := by decide +kernel
theorem dX12_text_10 : decode cX12_text 10 = .ok (.aload_n 0, 1) := by decide +kernel
theorem dX12_text_11 : decode cX12_text 11 = .ok (.getfield 135, 3) := by decide +kernel
theorem dX12_text_14 : decode cX12_text 14 = .ok (.if_icmp .le 6, 3) := by decide +kernel
theorem dX12_text_17 : decode cX12_text 17 = .ok (.bipush (-2), 2) := by decide +kernel
theorem dX12_text_19 : decode cX12_text 19 = .ok (.ireturn, 1) := by decide +kernel
theorem dX12_text_20 : decode cX12_text 20 = .ok (.aload_n 0, 1) := by decide +kernel
theorem dX12_text_21 : decode cX12_text 21 = .ok (.iload_n 1, 1) := by decide +kernel
theorem dX12_text_22 : decode cX12_text 22 = .ok (.putfield 144, 3) := by decide +kernel
theorem dX12_text_25 : decode cX12_text 25 = .ok (.aload_n 0, 1) := by decide +kernel
theorem dX12_text_26 : decode cX12_text 26 = .ok (.iconst 0, 1) := by decide +kernel
theorem dX12_text_27 : decode cX12_text 27 = .ok (.putfield 135, 3) := by decide +kernel
theorem dX12_text_30 : decode cX12_text 30 = .ok (.aload_n 0, 1) := by decide +kernel
theorem dX12_text_31 : decode cX12_text 31 = .ok (.iconst 0, 1) := by decide +kernel
theorem dX12_text_32 : decode cX12_text 32 = .ok (.putfield 138, 3) := by decide +kernel
theorem dX12_text_35 : decode cX12_text 35 = .ok (.aload_n 0, 1) := by decide +kernel
theorem dX12_text_36 : decode cX12_text 36 = .ok (.iconst (-1), 1) := by decide +kernel
theorem dX12_text_37 : decode cX12_text 37 = .ok (.putfield 16, 3) := by decide +kernel
theorem dX12_text_40 : decode cX12_text 40 = .ok (.aload_n 0, 1) := by decide +kernel
theorem dX12_text_41 : decode cX12_text 41 = .ok (.iconst 0, 1) := by decide +kernel
theorem dX12_text_42 : decode cX12_text 42 = .ok (.putfield 147, 3) := by decide +kernel
theorem dX12_text_45 : decode cX12_text 45 = .ok (.aload_n 0, 1) := by decide +kernel
theorem dX12_text_46 : decode cX12_text 46 = .ok (.invokevirtual 126, 3) := by decide +kernel
theorem dX12_text_49 : decode cX12_text 49 = .ok (.iconst 0, 1) := by decide +kernel
theorem dX12_text_50 : decode cX12_text 50 = .ok (.istore_n 2, 1) := by decide +kernel
theorem dX12_text_51 : decode cX12_text 51 = .ok (.aload_n 0, 1) := by decide +kernel
theorem dX12_text_52 : decode cX12_text 52 = .ok (.invokevirtual 194, 3) := by decide +kernel
theorem dX12_text_55 : decode cX12_text 55 = .ok (.aload_n 0, 1) := by decide +kernel
theorem dX12_text_56 : decode cX12_text 56 = .ok (.getfield 150, 3) := by decide +kernel
theorem dX12_text_59 : decode cX12_text 59 = .ok (.ifCond .eq 27, 3) := by decide +kernel
theorem dX12_text_62 : decode cX12_text 62 = .ok (.aload_n 0, 1) := by decide +kernel
theorem dX12_text_63 : decode cX12_text 63 = .ok (.iload_n 2, 1) := by decide +kernel
theorem dX12_text_64 : decode cX12_text 64 = .ok (.ifCond .ne 7, 3) := by decide +kernel
theorem dX12_text_67 : decode cX12_text 67 = .ok (.iconst 1, 1) := by decide +kernel
theorem dX12_text_68 : decode cX12_text 68 = .ok (.goto 4, 3) := by decide +kernel
theorem dX12_text_71 : decode cX12_text 71 = .ok (.iconst 0, 1) := by decide +kernel
theorem dX12_text_72 : decode cX12_text 72 = .ok (.invokevirtual 218, 3) := by decide +kernel
theorem dX12_text_75 : decode cX12_text 75 = .ok (.ifCond .ne 5, 3) := by decide +kernel
theorem dX12_text_78 : decode cX12_text 78 = .ok (.iconst (-1), 1) := by decide +kernel
theorem dX12_text_79 : decode cX12_text 79 = .ok (.ireturn, 1) := by decide +kernel
theorem dX12_text_80 : decode cX12_text 80 = .ok (.iinc 2 1, 3) := by decide +kernel
theorem dX12_text_83 : decode cX12_text 83 = .ok (.goto (-28), 3) := by decide +kernel
theorem dX12_text_86 : decode cX12_text 86 = .ok (.aload_n 0, 1) := by decide +kernel
theorem dX12_text_87 : decode cX12_text 87 = .ok (.invokevirtual 129, 3) := by decide +kernel
theorem dX12_text_90 : decode cX12_text 90 = .ok (.iload_n 2, 1) := by decide +kernel
theorem dX12_text_91 : decode cX12_text 91 = .ok (.ireturn, 1) := by decide +kernel
theorem dX12_keep_0 : decode cX12_keep 0 = .ok (.aload_n 0, 1) := by decide +kernel
theorem dX12_keep_1 : decode cX12_keep 1 = .ok (.aload_n 0, 1) := by decide +kernel
theorem dX12_keep_2 : decode cX12_keep 2 = .ok (.getfield 170, 3) := by decide +kernel
theorem dX12_keep_5 : decode cX12_keep 5 = .ok (.putfield 185, 3) := by decide +kernel
theorem dX12_keep_8 : decode cX12_keep 8 = .ok (.aload_n 0, 1) := by decide +kernel
theorem dX12_keep_9 : decode cX12_keep 9 = .ok (.aload_n 0, 1) := by decide +kernel
theorem dX12_keep_10 : decode cX12_keep 10 = .ok (.getfield 173, 3) := by decide +kernel
theorem dX12_keep_13 : decode cX12_keep 13 = .ok (.putfield 188, 3) := by decide +kernel
theorem dX12_keep_16 : decode cX12_keep 16 = .ok (.aload_n 0, 1) := by decide +kernel
theorem dX12_keep_17 : decode cX12_keep 17 = .ok (.aload_n 0, 1) := by decide +kernel
theorem dX12_keep_18 : decode cX12_keep 18 = .ok (.getfield 179, 3) := by decide +kernel
theorem dX12_keep_21 : decode cX12_keep 21 = .ok (.putfield 222, 3) := by decide +kernel
theorem dX12_keep_24 : decode cX12_keep 24 = .ok (.aload_n 0, 1) := by decide +kernel
theorem dX12_keep_25 : decode cX12_keep 25 = .ok (.aload_n 0, 1) := by decide +kernel
theorem dX12_keep_26 : decode cX12_keep 26 = .ok (.getfield 182, 3) := by decide +kernel
theorem dX12_keep_29 : decode cX12_keep 29 = .ok (.putfield 225, 3) := by decide +kernel
theorem dX12_keep_32 : decode cX12_keep 32 = .ok (.iconst 0, 1) := by decide +kernel
theorem dX12_keep_33 : decode cX12_keep 33 = .ok (.istore_n 1, 1) := by decide +kernel
theorem dX12_keep_34 : decode cX12_keep 34 = .ok (.iload_n 1, 1) := by decide +kernel
theorem dX12_keep_35 : decode cX12_keep 35 = .ok (.aload_n 0, 1) := by decide +kernel
theorem dX12_keep_36 : decode cX12_keep 36 = .ok (.getfield 176, 3) := by decide +kernel
theorem dX12_keep_39 : decode cX12_keep 39 = .ok (.if_icmp .ge 21, 3) := by decide +kernel
theorem dX12_keep_42 : decode cX12_keep 42 = .ok (.aload_n 0, 1) := by decide +kernel
theorem dX12_keep_43 : decode cX12_keep 43 = .ok (.getfield 20, 3) := by decide +kernel
theorem dX12_keep_46 : decode cX12_keep 46 = .ok (.iload_n 1, 1) := by decide +kernel
theorem dX12_keep_47 : decode cX12_keep 47 = .ok (.aload_n 0, 1) := by decide +kernel
theorem dX12_keep_48 : decode cX12_keep 48 = .ok (.getfield 32, 3) := by decide +kernel
theorem dX12_keep_51 : decode cX12_keep 51 = .ok (.iload_n 1, 1) := by decide +kernel
theorem dX12_keep_52 : decode cX12_keep 52 = .ok (.iaload, 1) := by decide +kernel
theorem dX12_keep_53 : decode cX12_keep 53 = .ok (.iastore, 1) := by decide +kernel
theorem dX12_keep_54 : decode cX12_keep 54 = .ok (.iinc 1 1, 3) := by decide +kernel
theorem dX12_keep_57 : decode cX12_keep 57 = .ok (.goto (-23), 3) := by decide +kernel
theorem dX12_keep_60 : decode cX12_keep 60 = .ok (.iconst 0, 1) := by decide +kernel
theorem dX12_keep_61 : decode cX12_keep 61 = .ok (.istore_n 1, 1) := by decide +kernel
theorem dX12_keep_62 : decode cX12_keep 62 = .ok (.iload_n 1, 1) := by decide +kernel
theorem dX12_keep_63 : decode cX12_keep 63 = .ok (.aload_n 0, 1) := by decide +kernel
theorem dX12_keep_64 : decode cX12_keep 64 = .ok (.getfield 222, 3) := by decide +kernel
theorem dX12_keep_67 : decode cX12_keep 67 = .ok (.if_icmp .ge 33, 3) := by decide +kernel
theorem dX12_keep_70 : decode cX12_keep 70 = .ok (.aload_n 0, 1) := by decide +kernel
theorem dX12_keep_71 : decode cX12_keep 71 = .ok (.getfield 23, 3) := by decide +kernel
theorem dX12_keep_74 : decode cX12_keep 74 = .ok (.iload_n 1, 1) := by decide +kernel
theorem dX12_keep_75 : decode cX12_keep 75 = .ok (.aload_n 0, 1) := by decide +kernel
theorem dX12_keep_76 : decode cX12_keep 76 = .ok (.getfield 35, 3) := by decide +kernel
theorem dX12_keep_79 : decode cX12_keep 79 = .ok (.iload_n 1, 1) := by decide +kernel
theorem dX12_keep_80 : decode cX12_keep 80 = .ok (.iaload, 1) := by decide +kernel
theorem dX12_keep_81 : decode cX12_keep 81 = .ok (.iastore, 1) := by decide +kernel
theorem dX12_keep_82 : decode cX12_keep 82 = .ok (.aload_n 0, 1) := by decide +kernel
theorem dX12_keep_83 : decode cX12_keep 83 = .ok (.getfield 26, 3) := by decide +kernel
theorem dX12_keep_86 : decode cX12_keep 86 = .ok (.iload_n 1, 1) := by decide +kernel
theorem dX12_keep_87 : decode cX12_keep 87 = .ok (.aload_n 0, 1) := by decide +kernel
theorem dX12_keep_88 : decode cX12_keep 88 = .ok (.getfield 38, 3) := by decide +kernel
theorem dX12_keep_91 : decode cX12_keep 91 = .ok (.iload_n 1, 1) := by decide +kernel
theorem dX12_keep_92 : decode cX12_keep 92 = .ok (.iaload, 1) := by decide +kernel
theorem dX12_keep_93 : decode cX12_keep 93 = .ok (.iastore, 1) := by decide +kernel
theorem dX12_keep_94 : decode cX12_keep 94 = .ok (.iinc 1 1, 3) := by decide +kernel
theorem dX12_keep_97 : decode cX12_keep 97 = .ok (.goto (-35), 3) := by decide +kernel
theorem dX12_keep_100 : decode cX12_keep 100 = .ok (.iconst 0, 1) := by decide +kernel
theorem dX12_keep_101 : decode cX12_keep 101 = .ok (.istore_n 1, 1) := by decide +kernel
theorem dX12_keep_102 : decode cX12_keep 102 = .ok (.iload_n 1, 1) := by decide +kernel
theorem dX12_keep_103 : decode cX12_keep 103 = .ok (.iconst 3, 1) := by decide +kernel
theorem dX12_keep_104 : decode cX12_keep 104 = .ok (.aload_n 0, 1) := by decide +kernel
theorem dX12_keep_105 : decode cX12_keep 105 = .ok (.getfield 225, 3) := by decide +kernel
theorem dX12_keep_108 : decode cX12_keep 108 = .ok (.imul, 1) := by decide +kernel
theorem dX12_keep_109 : decode cX12_keep 109 = .ok (.if_icmp .ge 21, 3) := by decide +kernel
theorem dX12_keep_112 : decode cX12_keep 112 = .ok (.aload_n 0, 1) := by decide +kernel
theorem dX12_keep_113 : decode cX12_keep 113 = .ok (.getfield 29, 3) := by decide +kernel
theorem dX12_keep_116 : decode cX12_keep 116 = .ok (.iload_n 1, 1) := by decide +kernel
theorem dX12_keep_117 : decode cX12_keep 117 = .ok (.aload_n 0, 1) := by decide +kernel
theorem dX12_keep_118 : decode cX12_keep 118 = .ok (.getfield 41, 3) := by decide +kernel
theorem dX12_keep_121 : decode cX12_keep 121 = .ok (.iload_n 1, 1) := by decide +kernel
theorem dX12_keep_122 : decode cX12_keep 122 = .ok (.iaload, 1) := by decide +kernel
theorem dX12_keep_123 : decode cX12_keep 123 = .ok (.iastore, 1) := by decide +kernel
theorem dX12_keep_124 : decode cX12_keep 124 = .ok (.iinc 1 1, 3) := by decide +kernel
theorem dX12_keep_127 : decode cX12_keep 127 = .ok (.goto (-25), 3) := by decide +kernel
theorem dX12_keep_130 : decode cX12_keep 130 = .ok (.aload_n 0, 1) := by decide +kernel
theorem dX12_keep_131 : decode cX12_keep 131 = .ok (.invokevirtual 228, 3) := by decide +kernel
theorem dX12_keep_134 : decode cX12_keep 134 = .ok (.aload_n 0, 1) := by decide +kernel
theorem dX12_keep_135 : decode cX12_keep 135 = .ok (.invokevirtual 231, 3) := by decide +kernel
theorem dX12_keep_138 : decode cX12_keep 138 = .ok (.iconst 0, 1) := by decide +kernel
theorem dX12_keep_139 : decode cX12_keep 139 = .ok (.istore_n 1, 1) := by decide +kernel
theorem dX12_keep_140 : decode cX12_keep 140 = .ok (.iload_n 1, 1) := by decide +kernel
theorem dX12_keep_141 : decode cX12_keep 141 = .ok (.iconst 4, 1) := by decide +kernel
theorem dX12_keep_142 : decode cX12_keep 142 = .ok (.if_icmp .ge 23, 3) := by decide +kernel
theorem dX12_keep_145 : decode cX12_keep 145 = .ok (.aload_n 0, 1) := by decide +kernel
theorem dX12_keep_146 : decode cX12_keep 146 = .ok (.getfield 59, 3) := by decide +kernel
theorem dX12_keep_149 : decode cX12_keep 149 = .ok (.iload_n 1, 1) := by decide +kernel
theorem dX12_keep_150 : decode cX12_keep 150 = .ok (.iload_n 1, 1) := by decide +kernel
theorem dX12_keep_151 : decode cX12_keep 151 = .ok (.iastore, 1) := by decide +kernel
theorem dX12_keep_152 : decode cX12_keep 152 = .ok (.aload_n 0, 1) := by decide +kernel
theorem dX12_keep_153 : decode cX12_keep 153 = .ok (.getfield 62, 3) := by decide +kernel
theorem dX12_keep_156 : decode cX12_keep 156 = .ok (.iload_n 1, 1) := by decide +kernel
theorem dX12_keep_157 : decode cX12_keep 157 = .ok (.iload_n 1, 1) := by decide +kernel
theorem dX12_keep_158 : decode cX12_keep 158 = .ok (.iastore, 1) := by decide +kernel
theorem dX12_keep_159 : decode cX12_keep 159 = .ok (.iinc 1 1, 3) := by decide +kernel
theorem dX12_keep_162 : decode cX12_keep 162 = .ok (.goto (-22), 3) := by decide +kernel
theorem dX12_keep_165 : decode cX12_keep 165 = .ok (.aload_n 0, 1) := by decide +kernel
theorem dX12_keep_166 : decode cX12_keep 166 = .ok (.iconst 0, 1) := by decide +kernel
theorem dX12_keep_167 : decode cX12_keep 167 = .ok (.putfield 234, 3) := by decide +kernel
theorem dX12_keep_170 : decode cX12_keep 170 = .ok (.aload_n 0, 1) := by decide +kernel
theorem dX12_keep_171 : decode cX12_keep 171 = .ok (.iconst (-1), 1) := by decide +kernel
theorem dX12_keep_172 : decode cX12_keep 172 = .ok (.putfield 102, 3) := by decide +kernel
theorem dX12_keep_175 : decode cX12_keep 175 = .ok (.return_, 1) := by decide +kernel
theorem dX12_fault_0 : decode cX12_fault 0 = .ok (.aload_n 0, 1) := by decide +kernel
theorem dX12_fault_1 : decode cX12_fault 1 = .ok (.iconst 0, 1) := by decide +kernel
theorem dX12_fault_2 : decode cX12_fault 2 = .ok (.putfield 132, 3) := by decide +kernel
theorem dX12_fault_5 : decode cX12_fault 5 = .ok (.iload_n 1, 1) := by decide +kernel
theorem dX12_fault_6 : decode cX12_fault 6 = .ok (.ifCond .ne 10, 3) := by decide +kernel
theorem dX12_fault_9 : decode cX12_fault 9 = .ok (.aload_n 0, 1) := by decide +kernel
theorem dX12_fault_10 : decode cX12_fault 10 = .ok (.getfield 138, 3) := by decide +kernel
theorem dX12_fault_13 : decode cX12_fault 13 = .ok (.goto 16, 3) := by decide +kernel
theorem dX12_fault_16 : decode cX12_fault 16 = .ok (.iload_n 1, 1) := by decide +kernel
theorem dX12_fault_17 : decode cX12_fault 17 = .ok (.iconst 1, 1) := by decide +kernel
theorem dX12_fault_18 : decode cX12_fault 18 = .ok (.if_icmp .ne 10, 3) := by decide +kernel
theorem dX12_fault_21 : decode cX12_fault 21 = .ok (.aload_n 0, 1) := by decide +kernel
theorem dX12_fault_22 : decode cX12_fault 22 = .ok (.getfield 16, 3) := by decide +kernel
theorem dX12_fault_25 : decode cX12_fault 25 = .ok (.goto 4, 3) := by decide +kernel
theorem dX12_fault_28 : decode cX12_fault 28 = .ok (.iconst (-1), 1) := by decide +kernel
theorem dX12_fault_29 : decode cX12_fault 29 = .ok (.ireturn, 1) := by decide +kernel
theorem dX12_named_0 : decode cX12_named 0 = .ok (.aload_n 0, 1) := by decide +kernel
theorem dX12_named_1 : decode cX12_named 1 = .ok (.iconst 0, 1) := by decide +kernel
theorem dX12_named_2 : decode cX12_named 2 = .ok (.putfield 132, 3) := by decide +kernel
theorem dX12_named_5 : decode cX12_named 5 = .ok (.iload_n 1, 1) := by decide +kernel
theorem dX12_named_6 : decode cX12_named 6 = .ok (.iconst 0, 1) := by decide +kernel
theorem dX12_named_7 : decode cX12_named 7 = .ok (.iconst 1, 1) := by decide +kernel
theorem dX12_named_8 : decode cX12_named 8 = .ok (.invokestatic 237, 3) := by decide +kernel
theorem dX12_named_11 : decode cX12_named 11 = .ok (.ifCond .ne 5, 3) := by decide +kernel
theorem dX12_named_14 : decode cX12_named 14 = .ok (.iconst (-1), 1) := by decide +kernel
theorem dX12_named_15 : decode cX12_named 15 = .ok (.ireturn, 1) := by decide +kernel
theorem dX12_named_16 : decode cX12_named 16 = .ok (.iload_n 1, 1) := by decide +kernel
theorem dX12_named_17 : decode cX12_named 17 = .ok (.ifCond .ne 10, 3) := by decide +kernel
theorem dX12_named_20 : decode cX12_named 20 = .ok (.aload_n 0, 1) := by decide +kernel
theorem dX12_named_21 : decode cX12_named 21 = .ok (.invokevirtual 241, 3) := by decide +kernel
theorem dX12_named_24 : decode cX12_named 24 = .ok (.goto 7, 3) := by decide +kernel
theorem dX12_named_27 : decode cX12_named 27 = .ok (.aload_n 0, 1) := by decide +kernel
theorem dX12_named_28 : decode cX12_named 28 = .ok (.getfield 222, 3) := by decide +kernel
theorem dX12_named_31 : decode cX12_named 31 = .ok (.istore_n 3, 1) := by decide +kernel
theorem dX12_named_32 : decode cX12_named 32 = .ok (.iconst 0, 1) := by decide +kernel
theorem dX12_named_33 : decode cX12_named 33 = .ok (.istore 4, 2) := by decide +kernel
theorem dX12_named_35 : decode cX12_named 35 = .ok (.iload 4, 2) := by decide +kernel
theorem dX12_named_37 : decode cX12_named 37 = .ok (.iload_n 3, 1) := by decide +kernel
theorem dX12_named_38 : decode cX12_named 38 = .ok (.if_icmp .ge 37, 3) := by decide +kernel
theorem dX12_named_41 : decode cX12_named 41 = .ok (.iload_n 1, 1) := by decide +kernel
theorem dX12_named_42 : decode cX12_named 42 = .ok (.ifCond .ne 13, 3) := by decide +kernel
theorem dX12_named_45 : decode cX12_named 45 = .ok (.aload_n 0, 1) := by decide +kernel
theorem dX12_named_46 : decode cX12_named 46 = .ok (.getfield 20, 3) := by decide +kernel
theorem dX12_named_49 : decode cX12_named 49 = .ok (.iload 4, 2) := by decide +kernel
theorem dX12_named_51 : decode cX12_named 51 = .ok (.iaload, 1) := by decide +kernel
theorem dX12_named_52 : decode cX12_named 52 = .ok (.goto 10, 3) := by decide +kernel
theorem dX12_named_55 : decode cX12_named 55 = .ok (.aload_n 0, 1) := by decide +kernel
theorem dX12_named_56 : decode cX12_named 56 = .ok (.getfield 23, 3) := by decide +kernel
theorem dX12_named_59 : decode cX12_named 59 = .ok (.iload 4, 2) := by decide +kernel
theorem dX12_named_61 : decode cX12_named 61 = .ok (.iaload, 1) := by decide +kernel
theorem dX12_named_62 : decode cX12_named 62 = .ok (.iload_n 2, 1) := by decide +kernel
theorem dX12_named_63 : decode cX12_named 63 = .ok (.if_icmp .ne 6, 3) := by decide +kernel
theorem dX12_named_66 : decode cX12_named 66 = .ok (.iload 4, 2) := by decide +kernel
theorem dX12_named_68 : decode cX12_named 68 = .ok (.ireturn, 1) := by decide +kernel
theorem dX12_named_69 : decode cX12_named 69 = .ok (.iinc 4 1, 3) := by decide +kernel
theorem dX12_named_72 : decode cX12_named 72 = .ok (.goto (-37), 3) := by decide +kernel
theorem dX12_named_75 : decode cX12_named 75 = .ok (.iconst (-1), 1) := by decide +kernel
theorem dX12_named_76 : decode cX12_named 76 = .ok (.ireturn, 1) := by decide +kernel
theorem dX12_layRows_0 : decode cX12_layRows 0 = .ok (.aload_n 0, 1) := by decide +kernel
theorem dX12_layRows_1 : decode cX12_layRows 1 = .ok (.iconst 0, 1) := by decide +kernel
theorem dX12_layRows_2 : decode cX12_layRows 2 = .ok (.putfield 245, 3) := by decide +kernel
theorem dX12_layRows_5 : decode cX12_layRows 5 = .ok (.iconst 1, 1) := by decide +kernel
theorem dX12_layRows_6 : decode cX12_layRows 6 = .ok (.istore_n 1, 1) := by decide +kernel
theorem dX12_layRows_7 : decode cX12_layRows 7 = .ok (.iconst 0, 1) := by decide +kernel
theorem dX12_layRows_8 : decode cX12_layRows 8 = .ok (.istore_n 2, 1) := by decide +kernel
theorem dX12_layRows_9 : decode cX12_layRows 9 = .ok (.iload_n 2, 1) := by decide +kernel
theorem dX12_layRows_10 : decode cX12_layRows 10 = .ok (.aload_n 0, 1) := by decide +kernel
theorem dX12_layRows_11 : decode cX12_layRows 11 = .ok (.getfield 185, 3) := by decide +kernel
theorem dX12_layRows_14 : decode cX12_layRows 14 = .ok (.if_icmp .ge 16, 3) := by decide +kernel
theorem dX12_layRows_17 : decode cX12_layRows 17 = .ok (.iload_n 1, 1) := by decide +kernel
theorem dX12_layRows_18 : decode cX12_layRows 18 = .ok (.aload_n 0, 1) := by decide +kernel
theorem dX12_layRows_19 : decode cX12_layRows 19 = .ok (.getfield 185, 3) := by decide +kernel
theorem dX12_layRows_22 : decode cX12_layRows 22 = .ok (.imul, 1) := by decide +kernel
theorem dX12_layRows_23 : decode cX12_layRows 23 = .ok (.istore_n 1, 1) := by decide +kernel
theorem dX12_layRows_24 : decode cX12_layRows 24 = .ok (.iinc 2 1, 3) := by decide +kernel
theorem dX12_layRows_27 : decode cX12_layRows 27 = .ok (.goto (-18), 3) := by decide +kernel
theorem dX12_layRows_30 : decode cX12_layRows 30 = .ok (.iconst 0, 1) := by decide +kernel
theorem dX12_layRows_31 : decode cX12_layRows 31 = .ok (.istore_n 2, 1) := by decide +kernel
theorem dX12_layRows_32 : decode cX12_layRows 32 = .ok (.iload_n 2, 1) := by decide +kernel
theorem dX12_layRows_33 : decode cX12_layRows 33 = .ok (.iload_n 1, 1) := by decide +kernel
theorem dX12_layRows_34 : decode cX12_layRows 34 = .ok (.if_icmp .ge 97, 3) := by decide +kernel
theorem dX12_layRows_37 : decode cX12_layRows 37 = .ok (.iconst 0, 1) := by decide +kernel
theorem dX12_layRows_38 : decode cX12_layRows 38 = .ok (.istore_n 3, 1) := by decide +kernel
theorem dX12_layRows_39 : decode cX12_layRows 39 = .ok (.iload_n 2, 1) := by decide +kernel
theorem dX12_layRows_40 : decode cX12_layRows 40 = .ok (.istore 4, 2) := by decide +kernel
theorem dX12_layRows_42 : decode cX12_layRows 42 = .ok (.aload_n 0, 1) := by decide +kernel
theorem dX12_layRows_43 : decode cX12_layRows 43 = .ok (.getfield 185, 3) := by decide +kernel
theorem dX12_layRows_46 : decode cX12_layRows 46 = .ok (.iconst 1, 1) := by decide +kernel
