theorem goodIn_r {big : List Cond} (ws : List Cond) (ps : List Nat) (hp : ws = ps.filterMap (fun i => big[i]?)) (h : ws.all goodWord = true) : GoodIn big ws := by
  intro w hw
  have h1 := List.all_eq_true.mp h w hw
  rw [hp] at hw
  obtain ⟨i, -, hi⟩ := List.mem_filterMap.mp hw
  have hm : w ∈ big := by first | exact List.mem_of_getElem? hi | exact List.getElem?_mem hi
  exact ⟨hm, good_of_word h1⟩
theorem goodIn_app {big a b : List Cond} (ha : GoodIn big a) (hb : GoodIn big b) : GoodIn big (a ++ b) := fun w h => (List.mem_append.mp h).elim (ha w) (hb w)
theorem goodIn_ca {big a b : List Cond} {c : Cond} (ha : GoodIn big (c :: a)) (hb : GoodIn big b) : GoodIn big (c :: (a ++ b)) := fun w h => (List.mem_cons.mp h).elim (fun e => ha w (List.mem_cons.mpr (Or.inl e))) (fun h => (List.mem_append.mp h).elim (fun h => ha w (List.mem_cons.mpr (Or.inr h))) (hb w))
theorem goodIn_sub {big ws : List Cond} (hm : ∀ w ∈ ws, w ∈ big) (h : ws.all goodWord = true) : GoodIn big ws := fun w hw => ⟨hm w hw, good_of_word (List.all_eq_true.mp h w hw)⟩
def vx_no (w : Cond) : Bool := decide (w ≠ .isRef (.static Bundle.tN "UNASSIGNED_STACK" Bundle.steD)) && decide (w ≠ .isRef (.static Bundle.tN "SUPPRESSED_SENTINEL" Bundle.listD)) && decide (w ≠ .laysStatic Bundle.tN "UNASSIGNED_STACK" Bundle.steD) && decide (w ≠ .laysStatic Bundle.tN "SUPPRESSED_SENTINEL" Bundle.listD)
def vx_atM (X : String) (names : List String) : List Cond := (Bundle.messageArmAtoms X names).filter vx_no
def RX0 : String := "BallPots$BarTable"
def TX0 : u_T := fun k => match k with
  | 0 => ("BallPots$BarTable", "draws", "LBallPots$Draws;", true)
  | 1 => ("BallPots$BarTable", "plan", "LBallPots$Plan;", true)
  | 2 => ("BallPots$BarTable", "ranks", "LBallPots$Ranks;", true)
  | 3 => ("BallPots$BarTable", "pairs", "[I", false)
  | _ => ("BallPots$BarTable", "fresh", "Z", false)
def tyX0 : Nat → FieldType := fun k => match k with
  | 0 => .object "BallPots$Draws"
  | 1 => .object "BallPots$Plan"
  | 2 => .object "BallPots$Ranks"
  | 3 => .array .int
  | _ => .boolean
abbrev wsX00 : List Cond := u_ws RX0 TX0 5
theorem nmX0 : ∀ a, a < 5 → ∀ b, b < 5 → a ≠ b → (TX0 a).2.1 ≠ (TX0 b).2.1 := by decide +kernel
theorem tyX0_ok : ∀ k, k < 5 → parseFieldDescriptor (TX0 k).2.2.1 = some (tyX0 k) := by decide +kernel
abbrev cX0_init : ByteArray := prog_2_method_1_code
def yX0_init : MethodName := ⟨RX0, "<init>", "(LBallPots$Draws;)V"⟩
def RX1 : String := "BallPots$Chances"
def TX1 : u_T := fun k => match k with
  | 0 => ("BallPots$Chances", "pairs", "[J", true)
  | 1 => ("BallPots$Chances", "places", "[J", true)
  | 2 => ("BallPots$Chances", "rows", "J", false)
  | _ => ("BallPots$Chances", "fresh", "Z", false)
def tyX1 : Nat → FieldType := fun k => match k with
  | 0 => .array .long
  | 1 => .array .long
  | 2 => .long
  | _ => .boolean
abbrev wsX10 : List Cond := u_ws RX1 TX1 4
theorem nmX1 : ∀ a, a < 4 → ∀ b, b < 4 → a ≠ b → (TX1 a).2.1 ≠ (TX1 b).2.1 := by decide +kernel
theorem tyX1_ok : ∀ k, k < 4 → parseFieldDescriptor (TX1 k).2.2.1 = some (tyX1 k) := by decide +kernel
abbrev cX1_init : ByteArray := prog_3_method_1_code
def yX1_init : MethodName := ⟨RX1, "<init>", "()V"⟩
def RX2 : String := "BallPots$Draws"
def TX2 : u_T := fun k => match k with
  | 0 => ("BallPots$Draws", "plan", "LBallPots$Plan;", true)
  | 1 => ("BallPots$Draws", "ranks", "LBallPots$Ranks;", true)
  | 2 => ("BallPots$Draws", "total", "I", false)
  | 3 => ("BallPots$Draws", "lawfulOnes", "I", false)
  | 4 => ("BallPots$Draws", "step", "[I", true)
  | 5 => ("BallPots$Draws", "broken", "[I", false)
  | 6 => ("BallPots$Draws", "lawfulCodes", "[I", false)
  | 7 => ("BallPots$Draws", "within", "[I", true)
  | 8 => ("BallPots$Draws", "withinSome", "[I", true)
  | _ => ("BallPots$Draws", "held", "[I", true)
def tyX2 : Nat → FieldType := fun k => match k with
  | 0 => .object "BallPots$Plan"
  | 1 => .object "BallPots$Ranks"
  | 2 => .int
  | 3 => .int
  | 4 => .array .int
  | 5 => .array .int
  | 6 => .array .int
  | 7 => .array .int
  | 8 => .array .int
  | _ => .array .int
abbrev wsX20 : List Cond := u_ws RX2 TX2 10
theorem nmX2 : ∀ a, a < 10 → ∀ b, b < 10 → a ≠ b → (TX2 a).2.1 ≠ (TX2 b).2.1 := by decide +kernel
theorem tyX2_ok : ∀ k, k < 10 → parseFieldDescriptor (TX2 k).2.2.1 = some (tyX2 k) := by decide +kernel
abbrev cX2_init : ByteArray := prog_4_method_1_code
def yX2_init : MethodName := ⟨RX2, "<init>", "(LBallPots$Plan;LBallPots$Ranks;)V"⟩
abbrev cX2_renew : ByteArray := prog_4_method_2_code
def yX2_renew : MethodName := ⟨RX2, "renew", "()V"⟩
abbrev cX2_tellHeld : ByteArray := prog_4_method_3_code
def yX2_tellHeld : MethodName := ⟨RX2, "tellHeld", "(I)V"⟩
abbrev cX2_breakBar : ByteArray := prog_4_method_4_code
def yX2_breakBar : MethodName := ⟨RX2, "breakBar", "(II)V"⟩
abbrev cX2_listLawful : ByteArray := prog_4_method_5_code
def yX2_listLawful : MethodName := ⟨RX2, "listLawful", "()V"⟩
abbrev cX2_tellWithin : ByteArray := prog_4_method_6_code
def yX2_tellWithin : MethodName := ⟨RX2, "tellWithin", "()V"⟩
abbrev cX2_addUp : ByteArray := prog_4_method_7_code
def yX2_addUp : MethodName := ⟨RX2, "addUp", "([II)V"⟩
abbrev cX2_rankIn : ByteArray := prog_4_method_12_code
def yX2_rankIn : MethodName := ⟨RX2, "rankIn", "(II)I"⟩
def RX3 : String := "BallPots$Plan"
def TX3 : u_T := fun k => match k with
  | 0 => ("BallPots$Plan", "groups", "I", false)
  | 1 => ("BallPots$Plan", "pots", "I", false)
  | 2 => ("BallPots$Plan", "teams", "I", false)
  | 3 => ("BallPots$Plan", "marks", "I", false)
  | 4 => ("BallPots$Plan", "bars", "I", false)
  | 5 => ("BallPots$Plan", "teamNames", "[I", true)
  | 6 => ("BallPots$Plan", "marksOf", "[I", true)
  | 7 => ("BallPots$Plan", "markNames", "[I", true)
  | 8 => ("BallPots$Plan", "barTeams", "[I", true)
  | 9 => ("BallPots$Plan", "barRooms", "[I", true)
  | _ => ("BallPots$Plan", "groupsNamed", "I", false)
def tyX3 : Nat → FieldType := fun k => match k with
  | 0 => .int
  | 1 => .int
  | 2 => .int
  | 3 => .int
  | 4 => .int
  | 5 => .array .int
  | 6 => .array .int
  | 7 => .array .int
  | 8 => .array .int
  | 9 => .array .int
  | _ => .int
abbrev wsX30 : List Cond := u_ws RX3 TX3 11
theorem nmX3 : ∀ a, a < 11 → ∀ b, b < 11 → a ≠ b → (TX3 a).2.1 ≠ (TX3 b).2.1 := by decide +kernel
theorem tyX3_ok : ∀ k, k < 11 → parseFieldDescriptor (TX3 k).2.2.1 = some (tyX3 k) := by decide +kernel
abbrev cX3_init : ByteArray := prog_5_method_1_code
def yX3_init : MethodName := ⟨RX3, "<init>", "()V"⟩
def RX4 : String := "BallPots$Ranks"
def TX4 : u_T := fun k => match k with
  | 0 => ("BallPots$Ranks", "groups", "I", false)
  | 1 => ("BallPots$Ranks", "many", "I", false)
  | 2 => ("BallPots$Ranks", "everyRank", "I", false)
  | 3 => ("BallPots$Ranks", "swapsAPot", "I", false)
  | 4 => ("BallPots$Ranks", "groupOf", "[I", true)
  | 5 => ("BallPots$Ranks", "placeIn", "[I", true)
  | 6 => ("BallPots$Ranks", "having", "[I", true)
  | 7 => ("BallPots$Ranks", "swapped", "[I", true)
  | _ => ("BallPots$Ranks", "row", "[I", true)
def tyX4 : Nat → FieldType := fun k => match k with
  | 0 => .int
  | 1 => .int
  | 2 => .int
  | 3 => .int
  | 4 => .array .int
  | 5 => .array .int
  | 6 => .array .int
  | 7 => .array .int
  | _ => .array .int
abbrev wsX40 : List Cond := u_ws RX4 TX4 9
theorem nmX4 : ∀ a, a < 9 → ∀ b, b < 9 → a ≠ b → (TX4 a).2.1 ≠ (TX4 b).2.1 := by decide +kernel
theorem tyX4_ok : ∀ k, k < 9 → parseFieldDescriptor (TX4 k).2.2.1 = some (tyX4 k) := by decide +kernel
abbrev cX4_init : ByteArray := prog_6_method_1_code
def yX4_init : MethodName := ⟨RX4, "<init>", "()V"⟩
abbrev cX4_set : ByteArray := prog_6_method_2_code
def yX4_set : MethodName := ⟨RX4, "set", "(I)V"⟩
abbrev cX4_readRow : ByteArray := prog_6_method_3_code
def yX4_readRow : MethodName := ⟨RX4, "readRow", "(II[I)Z"⟩
abbrev cX4_addRow : ByteArray := prog_6_method_4_code
def yX4_addRow : MethodName := ⟨RX4, "addRow", "()V"⟩
abbrev cX4_setSwaps : ByteArray := prog_6_method_5_code
def yX4_setSwaps : MethodName := ⟨RX4, "setSwaps", "(I)V"⟩
abbrev cX4_rankWithSwapped : ByteArray := prog_6_method_6_code
def yX4_rankWithSwapped : MethodName := ⟨RX4, "rankWithSwapped", "(III)I"⟩
abbrev cX4_groupAt : ByteArray := prog_6_method_7_code
def yX4_groupAt : MethodName := ⟨RX4, "groupAt", "(II)I"⟩
abbrev cX4_only : ByteArray := prog_6_method_8_code
def yX4_only : MethodName := ⟨RX4, "only", "(I)I"⟩
def RX5 : String := "BallPots$Reader"
def TX5 : u_T := fun k => match k with
  | 0 => ("BallPots$Reader", "signs", "[I", true)
  | 1 => ("BallPots$Reader", "plan", "LBallPots$Plan;", true)
  | 2 => ("BallPots$Reader", "fault", "I", false)
  | 3 => ("BallPots$Reader", "place", "I", false)
  | 4 => ("BallPots$Reader", "length", "I", false)
  | 5 => ("BallPots$Reader", "at", "I", false)
  | 6 => ("BallPots$Reader", "kind", "I", false)
  | 7 => ("BallPots$Reader", "start", "I", false)
  | _ => ("BallPots$Reader", "value", "I", false)
def tyX5 : Nat → FieldType := fun k => match k with
  | 0 => .array .int
  | 1 => .object "BallPots$Plan"
  | 2 => .int
  | 3 => .int
  | 4 => .int
  | 5 => .int
  | 6 => .int
  | 7 => .int
  | _ => .int
abbrev wsX50 : List Cond := u_ws RX5 TX5 9
theorem nmX5 : ∀ a, a < 9 → ∀ b, b < 9 → a ≠ b → (TX5 a).2.1 ≠ (TX5 b).2.1 := by decide +kernel
theorem tyX5_ok : ∀ k, k < 9 → parseFieldDescriptor (TX5 k).2.2.1 = some (tyX5 k) := by decide +kernel
abbrev cX5_init : ByteArray := prog_7_method_1_code
def yX5_init : MethodName := ⟨RX5, "<init>", "([I)V"⟩
def RX6 : String := "BallPots$Reckoner"
def TX6 : u_T := fun k => match k with
  | 0 => ("BallPots$Reckoner", "plan", "LBallPots$Plan;", true)
  | 1 => ("BallPots$Reckoner", "ranks", "LBallPots$Ranks;", true)
  | 2 => ("BallPots$Reckoner", "stage", "LBallPots$Stage;", true)
  | 3 => ("BallPots$Reckoner", "spread", "LBallPots$Spread;", true)
  | 4 => ("BallPots$Reckoner", "rankAt", "[I", true)
  | 5 => ("BallPots$Reckoner", "rowsAt", "[J", true)
  | 6 => ("BallPots$Reckoner", "firstLevel", "I", false)
  | 7 => ("BallPots$Reckoner", "firstPrefix", "I", false)
  | 8 => ("BallPots$Reckoner", "firstOpen", "I", false)
  | _ => ("BallPots$Reckoner", "firstLeft", "I", false)
def tyX6 : Nat → FieldType := fun k => match k with
  | 0 => .object "BallPots$Plan"
  | 1 => .object "BallPots$Ranks"
  | 2 => .object "BallPots$Stage"
  | 3 => .object "BallPots$Spread"
  | 4 => .array .int
  | 5 => .array .long
  | 6 => .int
  | 7 => .int
  | 8 => .int
  | _ => .int
abbrev wsX60 : List Cond := u_ws RX6 TX6 10
theorem nmX6 : ∀ a, a < 10 → ∀ b, b < 10 → a ≠ b → (TX6 a).2.1 ≠ (TX6 b).2.1 := by decide +kernel
theorem tyX6_ok : ∀ k, k < 10 → parseFieldDescriptor (TX6 k).2.2.1 = some (tyX6 k) := by decide +kernel
abbrev cX6_init : ByteArray := prog_8_method_1_code
def yX6_init : MethodName := ⟨RX6, "<init>", "(LBallPots$Draws;LBallPots$Stage;)V"⟩
def RX7 : String := "BallPots$Spread"
def TX7 : u_T := fun k => match k with
  | 0 => ("BallPots$Spread", "ranks", "LBallPots$Ranks;", true)
  | 1 => ("BallPots$Spread", "way", "I", false)
  | 2 => ("BallPots$Spread", "groupAt", "[I", true)
  | 3 => ("BallPots$Spread", "rows", "[J", true)
  | 4 => ("BallPots$Spread", "keys", "[I", true)
  | _ => ("BallPots$Spread", "tables", "[J", true)
def tyX7 : Nat → FieldType := fun k => match k with
  | 0 => .object "BallPots$Ranks"
  | 1 => .int
  | 2 => .array .int
  | 3 => .array .long
  | 4 => .array .int
  | _ => .array .long
abbrev wsX70 : List Cond := u_ws RX7 TX7 6
theorem nmX7 : ∀ a, a < 6 → ∀ b, b < 6 → a ≠ b → (TX7 a).2.1 ≠ (TX7 b).2.1 := by decide +kernel
theorem tyX7_ok : ∀ k, k < 6 → parseFieldDescriptor (TX7 k).2.2.1 = some (tyX7 k) := by decide +kernel
abbrev cX7_init : ByteArray := prog_9_method_1_code
def yX7_init : MethodName := ⟨RX7, "<init>", "(LBallPots$Ranks;)V"⟩
def RX8 : String := "BallPots$Stage"
def TX8 : u_T := fun k => match k with
  | 0 => ("BallPots$Stage", "plan", "LBallPots$Plan;", true)
  | 1 => ("BallPots$Stage", "ranks", "LBallPots$Ranks;", true)
  | 2 => ("BallPots$Stage", "potAt", "[I", true)
  | 3 => ("BallPots$Stage", "groupAt", "[I", true)
  | 4 => ("BallPots$Stage", "groupOf", "[I", true)
  | 5 => ("BallPots$Stage", "balls", "[I", true)
  | 6 => ("BallPots$Stage", "out", "I", false)
  | _ => ("BallPots$Stage", "allowed", "[I", true)
def tyX8 : Nat → FieldType := fun k => match k with
  | 0 => .object "BallPots$Plan"
  | 1 => .object "BallPots$Ranks"
  | 2 => .array .int
  | 3 => .array .int
  | 4 => .array .int
  | 5 => .array .int
  | 6 => .int
  | _ => .array .int
abbrev wsX80 : List Cond := u_ws RX8 TX8 8
theorem nmX8 : ∀ a, a < 8 → ∀ b, b < 8 → a ≠ b → (TX8 a).2.1 ≠ (TX8 b).2.1 := by decide +kernel
theorem tyX8_ok : ∀ k, k < 8 → parseFieldDescriptor (TX8 k).2.2.1 = some (tyX8 k) := by decide +kernel
abbrev cX8_init : ByteArray := prog_10_method_1_code
def yX8_init : MethodName := ⟨RX8, "<init>", "(LBallPots$Plan;LBallPots$Ranks;)V"⟩
abbrev cX8_putInTurn : ByteArray := prog_10_method_2_code
def yX8_putInTurn : MethodName := ⟨RX8, "putInTurn", "()V"⟩
abbrev cX8_empty : ByteArray := prog_10_method_3_code
def yX8_empty : MethodName := ⟨RX8, "empty", "()V"⟩
def RX9 : String := "BallPots$Swaps"
def TX9 : u_T := fun k => match k with
  | 0 => ("BallPots$Swaps", "draws", "LBallPots$Draws;", true)
  | 1 => ("BallPots$Swaps", "ranks", "LBallPots$Ranks;", true)
  | 2 => ("BallPots$Swaps", "rows", "[I", false)
  | 3 => ("BallPots$Swaps", "other", "[I", false)
  | 4 => ("BallPots$Swaps", "done", "I", false)
  | 5 => ("BallPots$Swaps", "partsFresh", "Z", false)
  | 6 => ("BallPots$Swaps", "manyParts", "I", false)
  | 7 => ("BallPots$Swaps", "firstPart", "I", false)
  | 8 => ("BallPots$Swaps", "greatestPart", "I", false)
  | _ => ("BallPots$Swaps", "queued", "I", false)
def tyX9 : Nat → FieldType := fun k => match k with
  | 0 => .object "BallPots$Draws"
  | 1 => .object "BallPots$Ranks"
  | 2 => .array .int
  | 3 => .array .int
  | 4 => .int
  | 5 => .boolean
  | 6 => .int
  | 7 => .int
  | 8 => .int
  | _ => .int
abbrev wsX90 : List Cond := u_ws RX9 TX9 10
theorem nmX9 : ∀ a, a < 10 → ∀ b, b < 10 → a ≠ b → (TX9 a).2.1 ≠ (TX9 b).2.1 := by decide +kernel
theorem tyX9_ok : ∀ k, k < 10 → parseFieldDescriptor (TX9 k).2.2.1 = some (tyX9 k) := by decide +kernel
abbrev cX9_init : ByteArray := prog_11_method_1_code
def yX9_init : MethodName := ⟨RX9, "<init>", "(LBallPots$Draws;)V"⟩
abbrev cX9_forget : ByteArray := prog_11_method_2_code
def yX9_forget : MethodName := ⟨RX9, "forget", "()V"⟩
def RX10 : String := "BallPots$Tree"
def TX10 : u_T := fun k => match k with
  | 0 => ("BallPots$Tree", "draws", "LBallPots$Draws;", true)
  | 1 => ("BallPots$Tree", "sets", "[I", true)
  | 2 => ("BallPots$Tree", "from", "[I", true)
  | 3 => ("BallPots$Tree", "potAt", "[I", true)
  | _ => ("BallPots$Tree", "fresh", "Z", false)
def tyX10 : Nat → FieldType := fun k => match k with
  | 0 => .object "BallPots$Draws"
  | 1 => .array .int
  | 2 => .array .int
  | 3 => .array .int
  | _ => .boolean
abbrev wsX100 : List Cond := u_ws RX10 TX10 5
theorem nmX10 : ∀ a, a < 5 → ∀ b, b < 5 → a ≠ b → (TX10 a).2.1 ≠ (TX10 b).2.1 := by decide +kernel
theorem tyX10_ok : ∀ k, k < 5 → parseFieldDescriptor (TX10 k).2.2.1 = some (tyX10 k) := by decide +kernel
abbrev cX10_init : ByteArray := prog_12_method_1_code
def yX10_init : MethodName := ⟨RX10, "<init>", "(LBallPots$Draws;)V"⟩
def RX11 : String := "BallPots"
def TX11 : u_T := fun k => match k with
  | 0 => ("BallPots", "tape", "[I", true)
  | 1 => ("BallPots", "taped", "I", false)
  | 2 => ("BallPots", "plan", "LBallPots$Plan;", true)
  | 3 => ("BallPots", "reader", "LBallPots$Reader;", true)
  | 4 => ("BallPots", "ranks", "LBallPots$Ranks;", true)
  | 5 => ("BallPots", "draws", "LBallPots$Draws;", true)
  | 6 => ("BallPots", "stage", "LBallPots$Stage;", true)
  | 7 => ("BallPots", "treeNow", "LBallPots$Tree;", true)
  | 8 => ("BallPots", "treeInTurn", "LBallPots$Tree;", true)
  | 9 => ("BallPots", "treeTried", "LBallPots$Tree;", true)
  | 10 => ("BallPots", "reckoner", "LBallPots$Reckoner;", true)
  | 11 => ("BallPots", "fromStart", "[LBallPots$Chances;", true)
  | 12 => ("BallPots", "fromNow", "[LBallPots$Chances;", true)
  | 13 => ("BallPots", "tried", "LBallPots$Chances;", true)
  | 14 => ("BallPots", "barTable", "LBallPots$BarTable;", true)
  | 15 => ("BallPots", "swaps", "LBallPots$Swaps;", true)
  | 16 => ("BallPots", "nearestOrder", "I", false)
  | _ => ("BallPots", "nearestArrangement", "I", false)
def tyX11 : Nat → FieldType := fun k => match k with
  | 0 => .array .int
  | 1 => .int
  | 2 => .object "BallPots$Plan"
  | 3 => .object "BallPots$Reader"
  | 4 => .object "BallPots$Ranks"
  | 5 => .object "BallPots$Draws"
  | 6 => .object "BallPots$Stage"
  | 7 => .object "BallPots$Tree"
  | 8 => .object "BallPots$Tree"
  | 9 => .object "BallPots$Tree"
  | 10 => .object "BallPots$Reckoner"
  | 11 => .array (.object "BallPots$Chances")
  | 12 => .array (.object "BallPots$Chances")
  | 13 => .object "BallPots$Chances"
  | 14 => .object "BallPots$BarTable"
  | 15 => .object "BallPots$Swaps"
  | 16 => .int
  | _ => .int
abbrev wsX110 : List Cond := u_ws RX11 TX11 18
theorem nmX11 : ∀ a, a < 18 → ∀ b, b < 18 → a ≠ b → (TX11 a).2.1 ≠ (TX11 b).2.1 := by decide +kernel
theorem tyX11_ok : ∀ k, k < 18 → parseFieldDescriptor (TX11 k).2.2.1 = some (tyX11 k) := by decide +kernel
abbrev cX11_init : ByteArray := prog_1_method_1_code
def yX11_init : MethodName := ⟨RX11, "<init>", "()V"⟩
abbrev cX11_beginAnew : ByteArray := prog_1_method_5_code
def yX11_beginAnew : MethodName := ⟨RX11, "beginAnew", "()V"⟩
abbrev cX11_startChanged : ByteArray := prog_1_method_6_code
def yX11_startChanged : MethodName := ⟨RX11, "startChanged", "()V"⟩
abbrev cX11_stageChanged : ByteArray := prog_1_method_7_code
def yX11_stageChanged : MethodName := ⟨RX11, "stageChanged", "()V"⟩
def RX12 : String := "BallPotsModel"
def TX12 : u_T := fun k => match k with
  | 0 => ("BallPotsModel", "tape", "[I", true)
  | 1 => ("BallPotsModel", "tapeSize", "I", false)
  | 2 => ("BallPotsModel", "thrown", "I", false)
  | 3 => ("BallPotsModel", "words", "[I", true)
  | 4 => ("BallPotsModel", "fault", "I", false)
  | 5 => ("BallPotsModel", "faultPlace", "I", false)
  | 6 => ("BallPotsModel", "stop", "I", false)
  | 7 => ("BallPotsModel", "next", "I", false)
  | 8 => ("BallPotsModel", "kind", "I", false)
  | 9 => ("BallPotsModel", "which", "I", false)
  | 10 => ("BallPotsModel", "place", "I", false)
  | 11 => ("BallPotsModel", "groups", "I", false)
  | 12 => ("BallPotsModel", "pots", "I", false)
  | 13 => ("BallPotsModel", "marks", "I", false)
  | 14 => ("BallPotsModel", "bars", "I", false)
  | 15 => ("BallPotsModel", "team", "[I", true)
  | 16 => ("BallPotsModel", "markName", "[I", true)
  | 17 => ("BallPotsModel", "marked", "[I", true)
  | 18 => ("BallPotsModel", "bar", "[I", true)
  | 19 => ("BallPotsModel", "groupsRead", "I", false)
  | 20 => ("BallPotsModel", "potsRead", "I", false)
  | 21 => ("BallPotsModel", "teamsRead", "I", false)
  | 22 => ("BallPotsModel", "marksRead", "I", false)
  | 23 => ("BallPotsModel", "barsRead", "I", false)
  | 24 => ("BallPotsModel", "teamRead", "[I", true)
  | 25 => ("BallPotsModel", "markRead", "[I", true)
  | 26 => ("BallPotsModel", "markedRead", "[I", true)
  | 27 => ("BallPotsModel", "barRead", "[I", true)
  | 28 => ("BallPotsModel", "ranks", "I", false)
  | 29 => ("BallPotsModel", "row", "[I", true)
  | 30 => ("BallPotsModel", "draws", "I", false)
  | 31 => ("BallPotsModel", "breaks", "[I", true)
  | 32 => ("BallPotsModel", "groupOf", "[B", true)
  | 33 => ("BallPotsModel", "lawful", "I", false)
  | 34 => ("BallPotsModel", "broken", "[Z", true)
  | 35 => ("BallPotsModel", "order", "[I", true)
  | 36 => ("BallPotsModel", "arranged", "[I", true)
  | 37 => ("BallPotsModel", "out", "I", false)
  | 38 => ("BallPotsModel", "ballOf", "[I", true)
  | 39 => ("BallPotsModel", "groupGot", "[I", true)
  | 40 => ("BallPotsModel", "turn", "[I", true)
  | 41 => ("BallPotsModel", "look", "[I", true)
  | 42 => ("BallPotsModel", "level", "[I", true)
  | 43 => ("BallPotsModel", "mask", "[I", true)
  | 44 => ("BallPotsModel", "ways", "[J", true)
  | 45 => ("BallPotsModel", "indexOf", "[I", true)
  | 46 => ("BallPotsModel", "having", "[I", true)
  | 47 => ("BallPotsModel", "parts", "I", false)
  | 48 => ("BallPotsModel", "power", "[I", true)
  | 49 => ("BallPotsModel", "part", "[J", true)
  | 50 => ("BallPotsModel", "weight", "[J", true)
  | 51 => ("BallPotsModel", "laid", "I", false)
  | 52 => ("BallPotsModel", "pairs", "[J", true)
  | 53 => ("BallPotsModel", "apart", "J", false)
  | 54 => ("BallPotsModel", "sum", "J", false)
  | 55 => ("BallPotsModel", "farOne", "I", false)
  | 56 => ("BallPotsModel", "farOther", "I", false)
  | 57 => ("BallPotsModel", "far", "J", false)
  | 58 => ("BallPotsModel", "beneath", "J", false)
  | 59 => ("BallPotsModel", "partOf", "[I", true)
  | 60 => ("BallPotsModel", "queue", "[I", true)
  | 61 => ("BallPotsModel", "step", "[I", true)
  | 62 => ("BallPotsModel", "turned", "[I", true)
  | 63 => ("BallPotsModel", "rows", "[I", true)
  | 64 => ("BallPotsModel", "then", "[I", true)
  | _ => ("BallPotsModel", "rowsInAll", "J", false)
def RJx00060 : String := "java/lang/ArrayIndexOutOfBoundsException"
def TJx00060 : u_T := fun k => match k with
  | 0 => ("java/lang/Throwable", "cause", "Ljava/lang/Throwable;", false)
  | 1 => ("java/lang/Throwable", "stackTrace", "[Ljava/lang/StackTraceElement;", false)
  | 2 => ("java/lang/Throwable", "suppressedExceptions", "Ljava/util/List;", false)
  | 3 => ("java/lang/Throwable", "detailMessage", "Ljava/lang/String;", false)
  | 4 => ("java/lang/Throwable", "backtrace", "Ljava/lang/Object;", false)
  | _ => ("java/lang/Throwable", "depth", "I", false)
abbrev wsJx000600 : List Cond := u_ws RJx00060 TJx00060 6
def RJ6 : String := "java/lang/Integer"
abbrev cJ6_bitCount_0f7a4 : ByteArray := prog_20_method_49_code
def yJ6_bitCount_0f7a4 : MethodName := ⟨RJ6, "bitCount", "(I)I"⟩
def RJ0 : String := "java/lang/String"
def TJ0 : u_T := fun k => match k with
  | 0 => ("java/lang/String", "value", "[B", true)
  | 1 => ("java/lang/String", "coder", "B", true)
  | 2 => ("java/lang/String", "hash", "I", false)
  | _ => ("java/lang/String", "hashIsZero", "Z", false)
def RJ4 : String := "java/lang/StringBuilder"
def TJ4 : u_T := fun k => match k with
  | 0 => ("java/lang/AbstractStringBuilder", "value", "[B", false)
  | 1 => ("java/lang/AbstractStringBuilder", "coder", "B", false)
  | 2 => ("java/lang/AbstractStringBuilder", "maybeLatin1", "Z", false)
  | _ => ("java/lang/AbstractStringBuilder", "count", "I", false)
def RJ7 : String := "java/util/Arrays"
abbrev cJ7_rangeCheck_23922 : ByteArray := prog_29_method_30_code
def yJ7_rangeCheck_23922 : MethodName := ⟨RJ7, "rangeCheck", "(III)V"⟩
abbrev cJ7_fill_d0a16 : ByteArray := prog_29_method_101_code
def yJ7_fill_d0a16 : MethodName := ⟨RJ7, "fill", "([JJ)V"⟩
abbrev cJ7_fill_53178 : ByteArray := prog_29_method_103_code
def yJ7_fill_53178 : MethodName := ⟨RJ7, "fill", "([II)V"⟩
abbrev cJ7_fill_fda19 : ByteArray := prog_29_method_104_code
def yJ7_fill_fda19 : MethodName := ⟨RJ7, "fill", "([IIII)V"⟩
def wsX0_init : List Cond := .code yX0_init cX0_init 2 none :: ([.methodLink RX0 3 objectInit, .instanceMethod objectInit, .code objectInit ⟨#[0xb1]⟩ 1 none, .arrayClass .int, .fieldLink RX0 11 "BallPots$BarTable" "pairs" "[I", .fieldLink RX0 15 "BallPots$BarTable" "draws" "LBallPots$Draws;", .fieldLink RX0 25 "BallPots$BarTable" "plan" "LBallPots$Plan;", .fieldLink RX0 30 "BallPots$BarTable" "ranks" "LBallPots$Ranks;"] ++ wsX00 ++ wsX20)
def wsJ7_fill_53178 : List Cond := .code yJ7_fill_53178 cJ7_fill_53178 4 none :: ([])
def wsJ6_bitCount_0f7a4 : List Cond := .code yJ6_bitCount_0f7a4 cJ6_bitCount_0f7a4 1 (some .int) :: ([.constant RJ6 265 (1431655765), .constant RJ6 266 (858993459), .constant RJ6 267 (252645135)])
def wsX4_only : List Cond := .code yX4_only cX4_only 1 (some .int) :: ([.methodLink RX4 69 yJ6_bitCount_0f7a4, .static yJ6_bitCount_0f7a4, .initialized RJ6, .code yJ6_bitCount_0f7a4 cJ6_bitCount_0f7a4 1 (some .int), .constant RJ6 265 (1431655765), .constant RJ6 266 (858993459), .constant RJ6 267 (252645135)])
def wsX1_init : List Cond := .code yX1_init cX1_init 1 none :: ([.methodLink RX1 3 objectInit, .instanceMethod objectInit, .code objectInit ⟨#[0xb1]⟩ 1 none, .arrayClass .long, .fieldLink RX1 9 "BallPots$Chances" "pairs" "[J", .fieldLink RX1 15 "BallPots$Chances" "places" "[J"] ++ wsX10)
def wsJ7_fill_d0a16 : List Cond := .code yJ7_fill_d0a16 cJ7_fill_d0a16 5 none :: ([])
def wsX2_init : List Cond := .code yX2_init cX2_init 3 none :: ([.methodLink RX2 3 objectInit, .instanceMethod objectInit, .code objectInit ⟨#[0xb1]⟩ 1 none, .arrayClass .int, .fieldLink RX2 9 "BallPots$Draws" "step" "[I", .fieldLink RX2 15 "BallPots$Draws" "broken" "[I", .fieldLink RX2 18 "BallPots$Draws" "lawfulCodes" "[I", .fieldLink RX2 21 "BallPots$Draws" "within" "[I", .fieldLink RX2 24 "BallPots$Draws" "withinSome" "[I", .fieldLink RX2 27 "BallPots$Draws" "held" "[I", .fieldLink RX2 30 "BallPots$Draws" "plan" "LBallPots$Plan;", .fieldLink RX2 34 "BallPots$Draws" "ranks" "LBallPots$Ranks;"] ++ wsX20)
def wsJ7_rangeCheck_23922 : List Cond := .code yJ7_rangeCheck_23922 cJ7_rangeCheck_23922 3 none :: ([.classLink RJ7 68 RJx00060, .instantiable RJx00060 6, .initialized RJx00060] ++ wsJx000600)
def wsJ7_fill_fda19 : List Cond := .code yJ7_fill_fda19 cJ7_fill_fda19 5 none :: ([.methodLink RJ7 13 yJ7_rangeCheck_23922, .static yJ7_rangeCheck_23922, .initialized RJ7, .code yJ7_rangeCheck_23922 cJ7_rangeCheck_23922 3 none, .classLink RJ7 68 RJx00060, .instantiable RJx00060 6, .initialized RJx00060] ++ wsJx000600)
def wsX4_groupAt : List Cond := .code yX4_groupAt cX4_groupAt 3 (some .int) :: ([.fieldLink RX4 9 "BallPots$Ranks" "groupOf" "[I"] ++ wsX40 ++ (vx_atM "java/lang/ArrayIndexOutOfBoundsException" ["java/lang/IndexOutOfBoundsException", "java/lang/RuntimeException", "java/lang/Exception"]).filter goodWord)
def wsX2_listLawful : List Cond := .code yX2_listLawful cX2_listLawful 2 none :: ([.fieldLink RX2 92 "BallPots$Draws" "lawfulOnes" "I", .fieldLink RX2 38 "BallPots$Draws" "total" "I", .fieldLink RX2 15 "BallPots$Draws" "broken" "[I", .fieldLink RX2 18 "BallPots$Draws" "lawfulCodes" "[I"] ++ wsX20 ++ (vx_atM "java/lang/ArrayIndexOutOfBoundsException" ["java/lang/IndexOutOfBoundsException", "java/lang/RuntimeException", "java/lang/Exception"]).filter goodWord)
def wsX2_addUp : List Cond := .code yX2_addUp cX2_addUp 5 none :: ([] ++ (vx_atM "java/lang/ArrayIndexOutOfBoundsException" ["java/lang/IndexOutOfBoundsException", "java/lang/RuntimeException", "java/lang/Exception"]).filter goodWord)
def wsX2_tellWithin : List Cond := .code yX2_tellWithin cX2_tellWithin 2 none :: ([.fieldLink RX2 21 "BallPots$Draws" "within" "[I", .fieldLink RX2 38 "BallPots$Draws" "total" "I", .fieldLink RX2 15 "BallPots$Draws" "broken" "[I", .fieldLink RX2 30 "BallPots$Draws" "plan" "LBallPots$Plan;", .methodLink RX2 95 yJ7_fill_53178, .static yJ7_fill_53178, .initialized RJ7, .code yJ7_fill_53178 cJ7_fill_53178 4 none, .methodLink RX2 98 yX2_addUp, .static yX2_addUp, .initialized RX2, .code yX2_addUp cX2_addUp 5 none] ++ wsX20 ++ wsX30 ++ (vx_atM "java/lang/ArrayIndexOutOfBoundsException" ["java/lang/IndexOutOfBoundsException", "java/lang/RuntimeException", "java/lang/Exception"]).filter goodWord)
def wsX2_renew_r1 : List Cond := [Cond.fieldLink RX2 38 "BallPots$Draws" "total" "I", Cond.fieldLink RX2 30 "BallPots$Draws" "plan" "LBallPots$Plan;", Cond.fieldLink RX2 9 "BallPots$Draws" "step" "[I", Cond.fieldLink RX2 34 "BallPots$Draws" "ranks" "LBallPots$Ranks;", Cond.fieldLink RX2 15 "BallPots$Draws" "broken" "[I", Cond.arrayClass .int, Cond.fieldLink RX2 18 "BallPots$Draws" "lawfulCodes" "[I", Cond.methodLink RX2 52 yJ7_fill_fda19, Cond.static yJ7_fill_fda19, Cond.initialized RJ7, Cond.code yJ7_fill_fda19 cJ7_fill_fda19 5 none, Cond.methodLink RJ7 13 yJ7_rangeCheck_23922, Cond.static yJ7_rangeCheck_23922, Cond.code yJ7_rangeCheck_23922 cJ7_rangeCheck_23922 3 none, Cond.classLink RJ7 68 RJx00060, Cond.instantiable RJx00060 6, Cond.initialized RJx00060, Cond.methodLink RX2 64 yX2_tellHeld, Cond.instanceMethod yX2_tellHeld, Cond.selects RX2 yX2_tellHeld yX2_tellHeld, Cond.initialized RX2, Cond.code yX2_tellHeld cX2_tellHeld 7 none, Cond.fieldLink RX2 27 "BallPots$Draws" "held" "[I", Cond.methodLink RX2 84 yX4_groupAt]
def wsX2_renew_r2 : List Cond := [Cond.instanceMethod yX4_groupAt, Cond.selects RX4 yX4_groupAt yX4_groupAt, Cond.initialized RX4, Cond.code yX4_groupAt cX4_groupAt 3 (some .int), Cond.fieldLink RX4 9 "BallPots$Ranks" "groupOf" "[I", Cond.methodLink RX2 71 yX2_breakBar, Cond.instanceMethod yX2_breakBar, Cond.selects RX2 yX2_breakBar yX2_breakBar, Cond.code yX2_breakBar cX2_breakBar 8 none, Cond.constant RX2 91 (34952), Cond.methodLink RX2 88 yX2_rankIn, Cond.instanceMethod yX2_rankIn, Cond.selects RX2 yX2_rankIn yX2_rankIn, Cond.code yX2_rankIn cX2_rankIn 5 (some .int), Cond.methodLink RX2 75 yX2_listLawful, Cond.instanceMethod yX2_listLawful, Cond.selects RX2 yX2_listLawful yX2_listLawful, Cond.code yX2_listLawful cX2_listLawful 2 none, Cond.fieldLink RX2 92 "BallPots$Draws" "lawfulOnes" "I", Cond.methodLink RX2 78 yX2_tellWithin, Cond.instanceMethod yX2_tellWithin, Cond.selects RX2 yX2_tellWithin yX2_tellWithin, Cond.code yX2_tellWithin cX2_tellWithin 2 none, Cond.fieldLink RX2 21 "BallPots$Draws" "within" "[I"]
def wsX2_renew_r3 : List Cond := [Cond.methodLink RX2 95 yJ7_fill_53178, Cond.static yJ7_fill_53178, Cond.code yJ7_fill_53178 cJ7_fill_53178 4 none, Cond.methodLink RX2 98 yX2_addUp, Cond.static yX2_addUp, Cond.code yX2_addUp cX2_addUp 5 none]
def wsX2_renew : List Cond := .code yX2_renew cX2_renew 2 none :: ((wsX2_renew_r1 ++ (wsX2_renew_r2 ++ wsX2_renew_r3)) ++ wsX20 ++ wsX30 ++ wsX40 ++ wsJx000600 ++ (vx_atM "java/lang/ArrayIndexOutOfBoundsException" ["java/lang/IndexOutOfBoundsException", "java/lang/RuntimeException", "java/lang/Exception"]).filter goodWord)
def wsX3_init : List Cond := .code yX3_init cX3_init 1 none :: ([.methodLink RX3 3 objectInit, .instanceMethod objectInit, .code objectInit ⟨#[0xb1]⟩ 1 none, .arrayClass .int, .fieldLink RX3 9 "BallPots$Plan" "teamNames" "[I", .fieldLink RX3 15 "BallPots$Plan" "marksOf" "[I", .fieldLink RX3 18 "BallPots$Plan" "markNames" "[I", .fieldLink RX3 21 "BallPots$Plan" "barTeams" "[I", .fieldLink RX3 24 "BallPots$Plan" "barRooms" "[I", .fieldLink RX3 27 "BallPots$Plan" "groups" "I"] ++ wsX30)
def wsX4_init : List Cond := .code yX4_init cX4_init 1 none :: ([.methodLink RX4 3 objectInit, .instanceMethod objectInit, .code objectInit ⟨#[0xb1]⟩ 1 none, .arrayClass .int, .fieldLink RX4 9 "BallPots$Ranks" "groupOf" "[I", .fieldLink RX4 15 "BallPots$Ranks" "placeIn" "[I", .fieldLink RX4 18 "BallPots$Ranks" "having" "[I", .fieldLink RX4 21 "BallPots$Ranks" "swapped" "[I", .fieldLink RX4 24 "BallPots$Ranks" "row" "[I"] ++ wsX40)
def wsX4_readRow : List Cond := .code yX4_readRow cX4_readRow 5 (some .boolean) :: ([] ++ (vx_atM "java/lang/ArrayIndexOutOfBoundsException" ["java/lang/IndexOutOfBoundsException", "java/lang/RuntimeException", "java/lang/Exception"]).filter goodWord)
def wsX4_addRow : List Cond := .code yX4_addRow cX4_addRow 3 none :: ([.fieldLink RX4 27 "BallPots$Ranks" "groups" "I", .fieldLink RX4 24 "BallPots$Ranks" "row" "[I", .fieldLink RX4 9 "BallPots$Ranks" "groupOf" "[I", .fieldLink RX4 31 "BallPots$Ranks" "many" "I", .fieldLink RX4 15 "BallPots$Ranks" "placeIn" "[I", .fieldLink RX4 18 "BallPots$Ranks" "having" "[I"] ++ wsX40 ++ (vx_atM "java/lang/ArrayIndexOutOfBoundsException" ["java/lang/IndexOutOfBoundsException", "java/lang/RuntimeException", "java/lang/Exception"]).filter goodWord)
def wsX4_rankWithSwapped : List Cond := .code yX4_rankWithSwapped cX4_rankWithSwapped 8 (some .int) :: ([.fieldLink RX4 47 "BallPots$Ranks" "everyRank" "I", .fieldLink RX4 27 "BallPots$Ranks" "groups" "I", .fieldLink RX4 18 "BallPots$Ranks" "having" "[I", .methodLink RX4 61 yX4_groupAt, .instanceMethod yX4_groupAt, .selects RX4 yX4_groupAt yX4_groupAt, .initialized RX4, .code yX4_groupAt cX4_groupAt 3 (some .int), .fieldLink RX4 9 "BallPots$Ranks" "groupOf" "[I", .methodLink RX4 65 yX4_only, .static yX4_only, .code yX4_only cX4_only 1 (some .int), .methodLink RX4 69 yJ6_bitCount_0f7a4, .static yJ6_bitCount_0f7a4, .initialized RJ6, .code yJ6_bitCount_0f7a4 cJ6_bitCount_0f7a4 1 (some .int), .constant RJ6 265 (1431655765), .constant RJ6 266 (858993459), .constant RJ6 267 (252645135)] ++ wsX40 ++ (vx_atM "java/lang/ArrayIndexOutOfBoundsException" ["java/lang/IndexOutOfBoundsException", "java/lang/RuntimeException", "java/lang/Exception"]).filter goodWord)
def wsX4_setSwaps_r1 : List Cond := [Cond.fieldLink RX4 27 "BallPots$Ranks" "groups" "I", Cond.fieldLink RX4 21 "BallPots$Ranks" "swapped" "[I", Cond.fieldLink RX4 58 "BallPots$Ranks" "swapsAPot" "I", Cond.methodLink RX4 54 yX4_rankWithSwapped, Cond.instanceMethod yX4_rankWithSwapped, Cond.selects RX4 yX4_rankWithSwapped yX4_rankWithSwapped, Cond.initialized RX4, Cond.code yX4_rankWithSwapped cX4_rankWithSwapped 8 (some .int), Cond.fieldLink RX4 47 "BallPots$Ranks" "everyRank" "I", Cond.fieldLink RX4 18 "BallPots$Ranks" "having" "[I", Cond.methodLink RX4 61 yX4_groupAt, Cond.instanceMethod yX4_groupAt, Cond.selects RX4 yX4_groupAt yX4_groupAt, Cond.code yX4_groupAt cX4_groupAt 3 (some .int), Cond.fieldLink RX4 9 "BallPots$Ranks" "groupOf" "[I", Cond.methodLink RX4 65 yX4_only, Cond.static yX4_only, Cond.code yX4_only cX4_only 1 (some .int), Cond.methodLink RX4 69 yJ6_bitCount_0f7a4, Cond.static yJ6_bitCount_0f7a4, Cond.initialized RJ6, Cond.code yJ6_bitCount_0f7a4 cJ6_bitCount_0f7a4 1 (some .int), Cond.constant RJ6 265 (1431655765), Cond.constant RJ6 266 (858993459)]
def wsX4_setSwaps_r2 : List Cond := [Cond.constant RJ6 267 (252645135)]
def wsX4_setSwaps : List Cond := .code yX4_setSwaps cX4_setSwaps 5 none :: ((wsX4_setSwaps_r1 ++ wsX4_setSwaps_r2) ++ wsX40 ++ (vx_atM "java/lang/ArrayIndexOutOfBoundsException" ["java/lang/IndexOutOfBoundsException", "java/lang/RuntimeException", "java/lang/Exception"]).filter goodWord)
def wsX4_set_r1 : List Cond := [Cond.fieldLink RX4 27 "BallPots$Ranks" "groups" "I", Cond.fieldLink RX4 31 "BallPots$Ranks" "many" "I", Cond.fieldLink RX4 18 "BallPots$Ranks" "having" "[I", Cond.fieldLink RX4 24 "BallPots$Ranks" "row" "[I", Cond.fieldLink RX4 47 "BallPots$Ranks" "everyRank" "I", Cond.methodLink RX4 34 yJ7_fill_53178, Cond.static yJ7_fill_53178, Cond.initialized RJ7, Cond.code yJ7_fill_53178 cJ7_fill_53178 4 none, Cond.methodLink RX4 40 yX4_readRow, Cond.static yX4_readRow, Cond.initialized RX4, Cond.code yX4_readRow cX4_readRow 5 (some .boolean), Cond.methodLink RX4 44 yX4_addRow, Cond.instanceMethod yX4_addRow, Cond.selects RX4 yX4_addRow yX4_addRow, Cond.code yX4_addRow cX4_addRow 3 none, Cond.fieldLink RX4 9 "BallPots$Ranks" "groupOf" "[I", Cond.fieldLink RX4 15 "BallPots$Ranks" "placeIn" "[I", Cond.methodLink RX4 50 yX4_setSwaps, Cond.instanceMethod yX4_setSwaps, Cond.selects RX4 yX4_setSwaps yX4_setSwaps, Cond.code yX4_setSwaps cX4_setSwaps 5 none, Cond.fieldLink RX4 21 "BallPots$Ranks" "swapped" "[I"]
def wsX4_set_r2 : List Cond := [Cond.fieldLink RX4 58 "BallPots$Ranks" "swapsAPot" "I", Cond.methodLink RX4 54 yX4_rankWithSwapped, Cond.instanceMethod yX4_rankWithSwapped, Cond.selects RX4 yX4_rankWithSwapped yX4_rankWithSwapped, Cond.code yX4_rankWithSwapped cX4_rankWithSwapped 8 (some .int), Cond.methodLink RX4 61 yX4_groupAt, Cond.instanceMethod yX4_groupAt, Cond.selects RX4 yX4_groupAt yX4_groupAt, Cond.code yX4_groupAt cX4_groupAt 3 (some .int), Cond.methodLink RX4 65 yX4_only, Cond.static yX4_only, Cond.code yX4_only cX4_only 1 (some .int), Cond.methodLink RX4 69 yJ6_bitCount_0f7a4, Cond.static yJ6_bitCount_0f7a4, Cond.initialized RJ6, Cond.code yJ6_bitCount_0f7a4 cJ6_bitCount_0f7a4 1 (some .int), Cond.constant RJ6 265 (1431655765), Cond.constant RJ6 266 (858993459), Cond.constant RJ6 267 (252645135)]
def wsX4_set : List Cond := .code yX4_set cX4_set 3 none :: ((wsX4_set_r1 ++ wsX4_set_r2) ++ wsX40 ++ (vx_atM "java/lang/ArrayIndexOutOfBoundsException" ["java/lang/IndexOutOfBoundsException", "java/lang/RuntimeException", "java/lang/Exception"]).filter goodWord)
def wsX5_init : List Cond := .code yX5_init cX5_init 2 none :: ([.methodLink RX5 3 objectInit, .instanceMethod objectInit, .code objectInit ⟨#[0xb1]⟩ 1 none, .classLink RX5 9 RX3, .instantiable RX3 11, .initialized RX3, .fieldLink RX5 12 "BallPots$Reader" "plan" "LBallPots$Plan;", .fieldLink RX5 18 "BallPots$Reader" "place" "I", .fieldLink RX5 22 "BallPots$Reader" "signs" "[I", .methodLink RX5 11 yX3_init, .instanceMethod yX3_init, .code yX3_init cX3_init 1 none, .methodLink RX3 3 objectInit, .arrayClass .int, .fieldLink RX3 9 "BallPots$Plan" "teamNames" "[I", .fieldLink RX3 15 "BallPots$Plan" "marksOf" "[I", .fieldLink RX3 18 "BallPots$Plan" "markNames" "[I", .fieldLink RX3 21 "BallPots$Plan" "barTeams" "[I", .fieldLink RX3 24 "BallPots$Plan" "barRooms" "[I", .fieldLink RX3 27 "BallPots$Plan" "groups" "I"] ++ wsX30 ++ wsX50)
def wsX7_init : List Cond := .code yX7_init cX7_init 2 none :: ([.methodLink RX7 3 objectInit, .instanceMethod objectInit, .code objectInit ⟨#[0xb1]⟩ 1 none, .arrayClass .int, .fieldLink RX7 9 "BallPots$Spread" "groupAt" "[I", .arrayClass .long, .fieldLink RX7 15 "BallPots$Spread" "rows" "[J", .fieldLink RX7 19 "BallPots$Spread" "keys" "[I", .fieldLink RX7 22 "BallPots$Spread" "tables" "[J", .fieldLink RX7 25 "BallPots$Spread" "ranks" "LBallPots$Ranks;"] ++ wsX70)
def wsX6_init : List Cond := .code yX6_init cX6_init 3 none :: ([.methodLink RX6 3 objectInit, .instanceMethod objectInit, .code objectInit ⟨#[0xb1]⟩ 1 none, .arrayClass .int, .fieldLink RX6 9 "BallPots$Reckoner" "rankAt" "[I", .arrayClass .long, .fieldLink RX6 15 "BallPots$Reckoner" "rowsAt" "[J", .fieldLink RX6 25 "BallPots$Reckoner" "plan" "LBallPots$Plan;", .fieldLink RX6 30 "BallPots$Reckoner" "ranks" "LBallPots$Ranks;", .fieldLink RX6 31 "BallPots$Reckoner" "stage" "LBallPots$Stage;", .classLink RX6 35 RX7, .instantiable RX7 6, .initialized RX7, .fieldLink RX6 40 "BallPots$Reckoner" "spread" "LBallPots$Spread;", .methodLink RX6 37 yX7_init, .instanceMethod yX7_init, .code yX7_init cX7_init 2 none, .methodLink RX7 3 objectInit, .fieldLink RX7 9 "BallPots$Spread" "groupAt" "[I", .fieldLink RX7 15 "BallPots$Spread" "rows" "[J", .fieldLink RX7 19 "BallPots$Spread" "keys" "[I", .fieldLink RX7 22 "BallPots$Spread" "tables" "[J", .fieldLink RX7 25 "BallPots$Spread" "ranks" "LBallPots$Ranks;"] ++ wsX60 ++ wsX20 ++ wsX70)
def wsX8_init : List Cond := .code yX8_init cX8_init 3 none :: ([.methodLink RX8 3 objectInit, .instanceMethod objectInit, .code objectInit ⟨#[0xb1]⟩ 1 none, .arrayClass .int, .fieldLink RX8 9 "BallPots$Stage" "potAt" "[I", .fieldLink RX8 15 "BallPots$Stage" "groupAt" "[I", .fieldLink RX8 18 "BallPots$Stage" "groupOf" "[I", .fieldLink RX8 21 "BallPots$Stage" "balls" "[I", .fieldLink RX8 24 "BallPots$Stage" "allowed" "[I", .fieldLink RX8 27 "BallPots$Stage" "plan" "LBallPots$Plan;", .fieldLink RX8 31 "BallPots$Stage" "ranks" "LBallPots$Ranks;"] ++ wsX80)
def wsX8_empty : List Cond := .code yX8_empty cX8_empty 1 none :: ([.fieldLink RX8 47 "BallPots$Stage" "out" "I", .fieldLink RX8 18 "BallPots$Stage" "groupOf" "[I", .methodLink RX8 51 yJ7_fill_53178, .static yJ7_fill_53178, .initialized RJ7, .code yJ7_fill_53178 cJ7_fill_53178 4 none] ++ wsX80)
def wsX8_putInTurn : List Cond := .code yX8_putInTurn cX8_putInTurn 1 none :: ([.fieldLink RX8 9 "BallPots$Stage" "potAt" "[I", .methodLink RX8 38 arraycopyName, .native arraycopyName, .static arraycopyName, .initialized "java/lang/System", .fieldLink RX8 15 "BallPots$Stage" "groupAt" "[I", .methodLink RX8 44 yX8_empty, .instanceMethod yX8_empty, .selects RX8 yX8_empty yX8_empty, .initialized RX8, .code yX8_empty cX8_empty 1 none, .fieldLink RX8 47 "BallPots$Stage" "out" "I", .fieldLink RX8 18 "BallPots$Stage" "groupOf" "[I", .methodLink RX8 51 yJ7_fill_53178, .static yJ7_fill_53178, .initialized RJ7, .code yJ7_fill_53178 cJ7_fill_53178 4 none] ++ wsX80)
def wsX9_init : List Cond := .code yX9_init cX9_init 2 none :: ([.methodLink RX9 3 objectInit, .instanceMethod objectInit, .code objectInit ⟨#[0xb1]⟩ 1 none, .arrayClass .int, .fieldLink RX9 9 "BallPots$Swaps" "rows" "[I", .fieldLink RX9 15 "BallPots$Swaps" "other" "[I", .fieldLink RX9 18 "BallPots$Swaps" "done" "I", .fieldLink RX9 22 "BallPots$Swaps" "draws" "LBallPots$Draws;", .fieldLink RX9 32 "BallPots$Swaps" "ranks" "LBallPots$Ranks;"] ++ wsX90 ++ wsX20)
def wsX9_forget : List Cond := .code yX9_forget cX9_forget 1 none :: ([.fieldLink RX9 18 "BallPots$Swaps" "done" "I", .fieldLink RX9 33 "BallPots$Swaps" "partsFresh" "Z"] ++ wsX90)
def wsX10_init : List Cond := .code yX10_init cX10_init 2 none :: ([.methodLink RX10 3 objectInit, .instanceMethod objectInit, .code objectInit ⟨#[0xb1]⟩ 1 none, .arrayClass .int, .fieldLink RX10 11 "BallPots$Tree" "sets" "[I", .fieldLink RX10 15 "BallPots$Tree" "from" "[I", .fieldLink RX10 18 "BallPots$Tree" "potAt" "[I", .fieldLink RX10 21 "BallPots$Tree" "draws" "LBallPots$Draws;"] ++ wsX100)
def wsX11_stageChanged : List Cond := .code yX11_stageChanged cX11_stageChanged 2 none :: ([.fieldLink RX11 82 "BallPots" "fromNow" "[LBallPots$Chances;"] ++ wsX110 ++ wsX10)
def wsX11_startChanged : List Cond := .code yX11_startChanged cX11_startChanged 1 none :: ([.fieldLink RX11 78 "BallPots" "fromStart" "[LBallPots$Chances;", .methodLink RX11 157 yX11_stageChanged, .instanceMethod yX11_stageChanged, .selects RX11 yX11_stageChanged yX11_stageChanged, .initialized RX11, .code yX11_stageChanged cX11_stageChanged 2 none, .fieldLink RX11 82 "BallPots" "fromNow" "[LBallPots$Chances;"] ++ wsX110 ++ wsX10)
def wsX11_beginAnew_r1 : List Cond := [Cond.fieldLink RX11 32 "BallPots" "ranks" "LBallPots$Ranks;", Cond.fieldLink RX11 16 "BallPots" "plan" "LBallPots$Plan;", Cond.fieldLink RX11 41 "BallPots" "draws" "LBallPots$Draws;", Cond.fieldLink RX11 48 "BallPots" "stage" "LBallPots$Stage;", Cond.fieldLink RX11 57 "BallPots" "treeNow" "LBallPots$Tree;", Cond.fieldLink RX11 61 "BallPots" "treeInTurn" "LBallPots$Tree;", Cond.fieldLink RX11 78 "BallPots" "fromStart" "[LBallPots$Chances;", Cond.fieldLink RX11 93 "BallPots" "barTable" "LBallPots$BarTable;", Cond.fieldLink RX11 100 "BallPots" "swaps" "LBallPots$Swaps;", Cond.fieldLink RX11 104 "BallPots" "nearestOrder" "I", Cond.fieldLink RX11 108 "BallPots" "nearestArrangement" "I", Cond.methodLink RX11 136 yX4_set, Cond.instanceMethod yX4_set, Cond.selects RX4 yX4_set yX4_set, Cond.initialized RX4, Cond.code yX4_set cX4_set 3 none, Cond.fieldLink RX4 27 "BallPots$Ranks" "groups" "I", Cond.fieldLink RX4 31 "BallPots$Ranks" "many" "I", Cond.fieldLink RX4 18 "BallPots$Ranks" "having" "[I", Cond.fieldLink RX4 24 "BallPots$Ranks" "row" "[I", Cond.fieldLink RX4 47 "BallPots$Ranks" "everyRank" "I", Cond.methodLink RX4 34 yJ7_fill_53178, Cond.static yJ7_fill_53178, Cond.initialized RJ7]
def wsX11_beginAnew_r2 : List Cond := [Cond.code yJ7_fill_53178 cJ7_fill_53178 4 none, Cond.methodLink RX4 40 yX4_readRow, Cond.static yX4_readRow, Cond.code yX4_readRow cX4_readRow 5 (some .boolean), Cond.methodLink RX4 44 yX4_addRow, Cond.instanceMethod yX4_addRow, Cond.selects RX4 yX4_addRow yX4_addRow, Cond.code yX4_addRow cX4_addRow 3 none, Cond.fieldLink RX4 9 "BallPots$Ranks" "groupOf" "[I", Cond.fieldLink RX4 15 "BallPots$Ranks" "placeIn" "[I", Cond.methodLink RX4 50 yX4_setSwaps, Cond.instanceMethod yX4_setSwaps, Cond.selects RX4 yX4_setSwaps yX4_setSwaps, Cond.code yX4_setSwaps cX4_setSwaps 5 none, Cond.fieldLink RX4 21 "BallPots$Ranks" "swapped" "[I", Cond.fieldLink RX4 58 "BallPots$Ranks" "swapsAPot" "I", Cond.methodLink RX4 54 yX4_rankWithSwapped, Cond.instanceMethod yX4_rankWithSwapped, Cond.selects RX4 yX4_rankWithSwapped yX4_rankWithSwapped, Cond.code yX4_rankWithSwapped cX4_rankWithSwapped 8 (some .int), Cond.methodLink RX4 61 yX4_groupAt, Cond.instanceMethod yX4_groupAt, Cond.selects RX4 yX4_groupAt yX4_groupAt, Cond.code yX4_groupAt cX4_groupAt 3 (some .int)]
def wsX11_beginAnew_r3 : List Cond := [Cond.methodLink RX4 65 yX4_only, Cond.static yX4_only, Cond.code yX4_only cX4_only 1 (some .int), Cond.methodLink RX4 69 yJ6_bitCount_0f7a4, Cond.static yJ6_bitCount_0f7a4, Cond.initialized RJ6, Cond.code yJ6_bitCount_0f7a4 cJ6_bitCount_0f7a4 1 (some .int), Cond.constant RJ6 265 (1431655765), Cond.constant RJ6 266 (858993459), Cond.constant RJ6 267 (252645135), Cond.methodLink RX11 139 yX2_renew, Cond.instanceMethod yX2_renew, Cond.selects RX2 yX2_renew yX2_renew, Cond.initialized RX2, Cond.code yX2_renew cX2_renew 2 none, Cond.fieldLink RX2 38 "BallPots$Draws" "total" "I", Cond.fieldLink RX2 30 "BallPots$Draws" "plan" "LBallPots$Plan;", Cond.fieldLink RX2 9 "BallPots$Draws" "step" "[I", Cond.fieldLink RX2 34 "BallPots$Draws" "ranks" "LBallPots$Ranks;", Cond.fieldLink RX2 15 "BallPots$Draws" "broken" "[I", Cond.arrayClass .int, Cond.fieldLink RX2 18 "BallPots$Draws" "lawfulCodes" "[I", Cond.methodLink RX2 52 yJ7_fill_fda19, Cond.static yJ7_fill_fda19]
def wsX11_beginAnew_r4 : List Cond := [Cond.code yJ7_fill_fda19 cJ7_fill_fda19 5 none, Cond.methodLink RJ7 13 yJ7_rangeCheck_23922, Cond.static yJ7_rangeCheck_23922, Cond.code yJ7_rangeCheck_23922 cJ7_rangeCheck_23922 3 none, Cond.classLink RJ7 68 RJx00060, Cond.instantiable RJx00060 6, Cond.initialized RJx00060, Cond.methodLink RX2 64 yX2_tellHeld, Cond.instanceMethod yX2_tellHeld, Cond.selects RX2 yX2_tellHeld yX2_tellHeld, Cond.code yX2_tellHeld cX2_tellHeld 7 none, Cond.fieldLink RX2 27 "BallPots$Draws" "held" "[I", Cond.methodLink RX2 84 yX4_groupAt, Cond.methodLink RX2 71 yX2_breakBar, Cond.instanceMethod yX2_breakBar, Cond.selects RX2 yX2_breakBar yX2_breakBar, Cond.code yX2_breakBar cX2_breakBar 8 none, Cond.constant RX2 91 (34952), Cond.methodLink RX2 88 yX2_rankIn, Cond.instanceMethod yX2_rankIn, Cond.selects RX2 yX2_rankIn yX2_rankIn, Cond.code yX2_rankIn cX2_rankIn 5 (some .int), Cond.methodLink RX2 75 yX2_listLawful, Cond.instanceMethod yX2_listLawful]
def wsX11_beginAnew_r5 : List Cond := [Cond.selects RX2 yX2_listLawful yX2_listLawful, Cond.code yX2_listLawful cX2_listLawful 2 none, Cond.fieldLink RX2 92 "BallPots$Draws" "lawfulOnes" "I", Cond.methodLink RX2 78 yX2_tellWithin, Cond.instanceMethod yX2_tellWithin, Cond.selects RX2 yX2_tellWithin yX2_tellWithin, Cond.code yX2_tellWithin cX2_tellWithin 2 none, Cond.fieldLink RX2 21 "BallPots$Draws" "within" "[I", Cond.methodLink RX2 95 yJ7_fill_53178, Cond.methodLink RX2 98 yX2_addUp, Cond.static yX2_addUp, Cond.code yX2_addUp cX2_addUp 5 none, Cond.methodLink RX11 142 yX8_putInTurn, Cond.instanceMethod yX8_putInTurn, Cond.selects RX8 yX8_putInTurn yX8_putInTurn, Cond.initialized RX8, Cond.code yX8_putInTurn cX8_putInTurn 1 none, Cond.fieldLink RX8 9 "BallPots$Stage" "potAt" "[I", Cond.methodLink RX8 38 arraycopyName, Cond.native arraycopyName, Cond.static arraycopyName, Cond.initialized "java/lang/System", Cond.fieldLink RX8 15 "BallPots$Stage" "groupAt" "[I", Cond.methodLink RX8 44 yX8_empty]
def wsX11_beginAnew_r6 : List Cond := [Cond.instanceMethod yX8_empty, Cond.selects RX8 yX8_empty yX8_empty, Cond.code yX8_empty cX8_empty 1 none, Cond.fieldLink RX8 47 "BallPots$Stage" "out" "I", Cond.fieldLink RX8 18 "BallPots$Stage" "groupOf" "[I", Cond.methodLink RX8 51 yJ7_fill_53178, Cond.methodLink RX11 151 yX9_forget, Cond.instanceMethod yX9_forget, Cond.selects RX9 yX9_forget yX9_forget, Cond.initialized RX9, Cond.code yX9_forget cX9_forget 1 none, Cond.fieldLink RX9 18 "BallPots$Swaps" "done" "I", Cond.fieldLink RX9 33 "BallPots$Swaps" "partsFresh" "Z", Cond.methodLink RX11 154 yX11_startChanged, Cond.instanceMethod yX11_startChanged, Cond.selects RX11 yX11_startChanged yX11_startChanged, Cond.initialized RX11, Cond.code yX11_startChanged cX11_startChanged 1 none, Cond.methodLink RX11 157 yX11_stageChanged, Cond.instanceMethod yX11_stageChanged, Cond.selects RX11 yX11_stageChanged yX11_stageChanged, Cond.code yX11_stageChanged cX11_stageChanged 2 none, Cond.fieldLink RX11 82 "BallPots" "fromNow" "[LBallPots$Chances;"]
def wsX11_beginAnew : List Cond := .code yX11_beginAnew cX11_beginAnew 1 none :: ((wsX11_beginAnew_r1 ++ (wsX11_beginAnew_r2 ++ (wsX11_beginAnew_r3 ++ (wsX11_beginAnew_r4 ++ (wsX11_beginAnew_r5 ++ wsX11_beginAnew_r6))))) ++ wsX110 ++ wsX30 ++ wsX100 ++ wsX10 ++ wsX00 ++ wsX40 ++ wsX20 ++ wsJx000600 ++ wsX80 ++ wsX90 ++ (vx_atM "java/lang/ArrayIndexOutOfBoundsException" ["java/lang/IndexOutOfBoundsException", "java/lang/RuntimeException", "java/lang/Exception"]).filter goodWord)
def wsX11_init_r1 : List Cond := [Cond.methodLink RX11 1 objectInit, Cond.instanceMethod objectInit, Cond.code objectInit ⟨#[0xb1]⟩ 1 none, Cond.arrayClass .int, Cond.fieldLink RX11 9 "BallPots" "tape" "[I", Cond.classLink RX11 13 RX3, Cond.instantiable RX3 11, Cond.initialized RX3, Cond.fieldLink RX11 16 "BallPots" "plan" "LBallPots$Plan;", Cond.classLink RX11 20 RX5, Cond.instantiable RX5 9, Cond.initialized RX5, Cond.fieldLink RX11 25 "BallPots" "reader" "LBallPots$Reader;", Cond.classLink RX11 29 RX4, Cond.instantiable RX4 9, Cond.initialized RX4, Cond.fieldLink RX11 32 "BallPots" "ranks" "LBallPots$Ranks;", Cond.classLink RX11 36 RX2, Cond.instantiable RX2 10, Cond.initialized RX2, Cond.fieldLink RX11 41 "BallPots" "draws" "LBallPots$Draws;", Cond.classLink RX11 45 RX8, Cond.instantiable RX8 8, Cond.initialized RX8]
def wsX11_init_r2 : List Cond := [Cond.fieldLink RX11 48 "BallPots" "stage" "LBallPots$Stage;", Cond.classLink RX11 52 RX10, Cond.instantiable RX10 5, Cond.initialized RX10, Cond.fieldLink RX11 57 "BallPots" "treeNow" "LBallPots$Tree;", Cond.fieldLink RX11 61 "BallPots" "treeInTurn" "LBallPots$Tree;", Cond.fieldLink RX11 64 "BallPots" "treeTried" "LBallPots$Tree;", Cond.classLink RX11 67 RX6, Cond.instantiable RX6 10, Cond.initialized RX6, Cond.fieldLink RX11 72 "BallPots" "reckoner" "LBallPots$Reckoner;", Cond.classLink RX11 76 RX1, Cond.fieldLink RX11 78 "BallPots" "fromStart" "[LBallPots$Chances;", Cond.fieldLink RX11 82 "BallPots" "fromNow" "[LBallPots$Chances;", Cond.instantiable RX1 4, Cond.initialized RX1, Cond.fieldLink RX11 86 "BallPots" "tried" "LBallPots$Chances;", Cond.classLink RX11 90 RX0, Cond.instantiable RX0 5, Cond.initialized RX0, Cond.fieldLink RX11 93 "BallPots" "barTable" "LBallPots$BarTable;", Cond.classLink RX11 97 RX9, Cond.instantiable RX9 10, Cond.initialized RX9]
def wsX11_init_r3 : List Cond := [Cond.fieldLink RX11 100 "BallPots" "swaps" "LBallPots$Swaps;", Cond.fieldLink RX11 104 "BallPots" "nearestOrder" "I", Cond.fieldLink RX11 108 "BallPots" "nearestArrangement" "I", Cond.methodLink RX11 15 yX3_init, Cond.instanceMethod yX3_init, Cond.code yX3_init cX3_init 1 none, Cond.methodLink RX3 3 objectInit, Cond.fieldLink RX3 9 "BallPots$Plan" "teamNames" "[I", Cond.fieldLink RX3 15 "BallPots$Plan" "marksOf" "[I", Cond.fieldLink RX3 18 "BallPots$Plan" "markNames" "[I", Cond.fieldLink RX3 21 "BallPots$Plan" "barTeams" "[I", Cond.fieldLink RX3 24 "BallPots$Plan" "barRooms" "[I", Cond.fieldLink RX3 27 "BallPots$Plan" "groups" "I", Cond.methodLink RX11 22 yX5_init, Cond.instanceMethod yX5_init, Cond.code yX5_init cX5_init 2 none, Cond.methodLink RX5 3 objectInit, Cond.classLink RX5 9 RX3, Cond.fieldLink RX5 12 "BallPots$Reader" "plan" "LBallPots$Plan;", Cond.fieldLink RX5 18 "BallPots$Reader" "place" "I", Cond.fieldLink RX5 22 "BallPots$Reader" "signs" "[I", Cond.methodLink RX5 11 yX3_init, Cond.instanceMethod yX4_init, Cond.code yX4_init cX4_init 1 none]
def wsX11_init_r4 : List Cond := [Cond.methodLink RX4 3 objectInit, Cond.fieldLink RX4 9 "BallPots$Ranks" "groupOf" "[I", Cond.fieldLink RX4 15 "BallPots$Ranks" "placeIn" "[I", Cond.fieldLink RX4 18 "BallPots$Ranks" "having" "[I", Cond.fieldLink RX4 21 "BallPots$Ranks" "swapped" "[I", Cond.fieldLink RX4 24 "BallPots$Ranks" "row" "[I", Cond.methodLink RX11 38 yX2_init, Cond.instanceMethod yX2_init, Cond.code yX2_init cX2_init 3 none, Cond.methodLink RX2 3 objectInit, Cond.fieldLink RX2 9 "BallPots$Draws" "step" "[I", Cond.fieldLink RX2 15 "BallPots$Draws" "broken" "[I", Cond.fieldLink RX2 18 "BallPots$Draws" "lawfulCodes" "[I", Cond.fieldLink RX2 21 "BallPots$Draws" "within" "[I", Cond.fieldLink RX2 24 "BallPots$Draws" "withinSome" "[I", Cond.fieldLink RX2 27 "BallPots$Draws" "held" "[I", Cond.fieldLink RX2 30 "BallPots$Draws" "plan" "LBallPots$Plan;", Cond.fieldLink RX2 34 "BallPots$Draws" "ranks" "LBallPots$Ranks;", Cond.methodLink RX11 47 yX8_init, Cond.instanceMethod yX8_init, Cond.code yX8_init cX8_init 3 none, Cond.methodLink RX8 3 objectInit, Cond.fieldLink RX8 9 "BallPots$Stage" "potAt" "[I", Cond.fieldLink RX8 15 "BallPots$Stage" "groupAt" "[I"]
def wsX11_init_r5 : List Cond := [Cond.fieldLink RX8 18 "BallPots$Stage" "groupOf" "[I", Cond.fieldLink RX8 21 "BallPots$Stage" "balls" "[I", Cond.fieldLink RX8 24 "BallPots$Stage" "allowed" "[I", Cond.fieldLink RX8 27 "BallPots$Stage" "plan" "LBallPots$Plan;", Cond.fieldLink RX8 31 "BallPots$Stage" "ranks" "LBallPots$Ranks;", Cond.methodLink RX11 54 yX10_init, Cond.instanceMethod yX10_init, Cond.code yX10_init cX10_init 2 none, Cond.methodLink RX10 3 objectInit, Cond.fieldLink RX10 11 "BallPots$Tree" "sets" "[I", Cond.fieldLink RX10 15 "BallPots$Tree" "from" "[I", Cond.fieldLink RX10 18 "BallPots$Tree" "potAt" "[I", Cond.fieldLink RX10 21 "BallPots$Tree" "draws" "LBallPots$Draws;", Cond.methodLink RX11 69 yX6_init, Cond.instanceMethod yX6_init, Cond.code yX6_init cX6_init 3 none, Cond.methodLink RX6 3 objectInit, Cond.fieldLink RX6 9 "BallPots$Reckoner" "rankAt" "[I", Cond.arrayClass .long, Cond.fieldLink RX6 15 "BallPots$Reckoner" "rowsAt" "[J", Cond.fieldLink RX6 25 "BallPots$Reckoner" "plan" "LBallPots$Plan;", Cond.fieldLink RX6 30 "BallPots$Reckoner" "ranks" "LBallPots$Ranks;", Cond.fieldLink RX6 31 "BallPots$Reckoner" "stage" "LBallPots$Stage;", Cond.classLink RX6 35 RX7]
def wsX11_init_r6 : List Cond := [Cond.instantiable RX7 6, Cond.initialized RX7, Cond.fieldLink RX6 40 "BallPots$Reckoner" "spread" "LBallPots$Spread;", Cond.methodLink RX6 37 yX7_init, Cond.instanceMethod yX7_init, Cond.code yX7_init cX7_init 2 none, Cond.methodLink RX7 3 objectInit, Cond.fieldLink RX7 9 "BallPots$Spread" "groupAt" "[I", Cond.fieldLink RX7 15 "BallPots$Spread" "rows" "[J", Cond.fieldLink RX7 19 "BallPots$Spread" "keys" "[I", Cond.fieldLink RX7 22 "BallPots$Spread" "tables" "[J", Cond.fieldLink RX7 25 "BallPots$Spread" "ranks" "LBallPots$Ranks;", Cond.instanceMethod yX1_init, Cond.code yX1_init cX1_init 1 none, Cond.methodLink RX1 3 objectInit, Cond.fieldLink RX1 9 "BallPots$Chances" "pairs" "[J", Cond.fieldLink RX1 15 "BallPots$Chances" "places" "[J", Cond.methodLink RX11 92 yX0_init, Cond.instanceMethod yX0_init, Cond.code yX0_init cX0_init 2 none, Cond.methodLink RX0 3 objectInit, Cond.fieldLink RX0 11 "BallPots$BarTable" "pairs" "[I", Cond.fieldLink RX0 15 "BallPots$BarTable" "draws" "LBallPots$Draws;", Cond.fieldLink RX0 25 "BallPots$BarTable" "plan" "LBallPots$Plan;"]
def wsX11_init_r7 : List Cond := [Cond.fieldLink RX0 30 "BallPots$BarTable" "ranks" "LBallPots$Ranks;", Cond.methodLink RX11 99 yX9_init, Cond.instanceMethod yX9_init, Cond.code yX9_init cX9_init 2 none, Cond.methodLink RX9 3 objectInit, Cond.fieldLink RX9 9 "BallPots$Swaps" "rows" "[I", Cond.fieldLink RX9 15 "BallPots$Swaps" "other" "[I", Cond.fieldLink RX9 18 "BallPots$Swaps" "done" "I", Cond.fieldLink RX9 22 "BallPots$Swaps" "draws" "LBallPots$Draws;", Cond.fieldLink RX9 32 "BallPots$Swaps" "ranks" "LBallPots$Ranks;", Cond.methodLink RX11 111 yX11_beginAnew, Cond.instanceMethod yX11_beginAnew, Cond.selects RX11 yX11_beginAnew yX11_beginAnew, Cond.initialized RX11, Cond.code yX11_beginAnew cX11_beginAnew 1 none, Cond.methodLink RX11 136 yX4_set, Cond.instanceMethod yX4_set, Cond.selects RX4 yX4_set yX4_set, Cond.code yX4_set cX4_set 3 none, Cond.fieldLink RX4 27 "BallPots$Ranks" "groups" "I", Cond.fieldLink RX4 31 "BallPots$Ranks" "many" "I", Cond.fieldLink RX4 47 "BallPots$Ranks" "everyRank" "I", Cond.methodLink RX4 34 yJ7_fill_53178, Cond.static yJ7_fill_53178]
def wsX11_init_r8 : List Cond := [Cond.initialized RJ7, Cond.code yJ7_fill_53178 cJ7_fill_53178 4 none, Cond.methodLink RX4 40 yX4_readRow, Cond.static yX4_readRow, Cond.code yX4_readRow cX4_readRow 5 (some .boolean), Cond.methodLink RX4 44 yX4_addRow, Cond.instanceMethod yX4_addRow, Cond.selects RX4 yX4_addRow yX4_addRow, Cond.code yX4_addRow cX4_addRow 3 none, Cond.methodLink RX4 50 yX4_setSwaps, Cond.instanceMethod yX4_setSwaps, Cond.selects RX4 yX4_setSwaps yX4_setSwaps, Cond.code yX4_setSwaps cX4_setSwaps 5 none, Cond.fieldLink RX4 58 "BallPots$Ranks" "swapsAPot" "I", Cond.methodLink RX4 54 yX4_rankWithSwapped, Cond.instanceMethod yX4_rankWithSwapped, Cond.selects RX4 yX4_rankWithSwapped yX4_rankWithSwapped, Cond.code yX4_rankWithSwapped cX4_rankWithSwapped 8 (some .int), Cond.methodLink RX4 61 yX4_groupAt, Cond.instanceMethod yX4_groupAt, Cond.selects RX4 yX4_groupAt yX4_groupAt, Cond.code yX4_groupAt cX4_groupAt 3 (some .int), Cond.methodLink RX4 65 yX4_only, Cond.static yX4_only]
def wsX11_init_r9 : List Cond := [Cond.code yX4_only cX4_only 1 (some .int), Cond.methodLink RX4 69 yJ6_bitCount_0f7a4, Cond.static yJ6_bitCount_0f7a4, Cond.initialized RJ6, Cond.code yJ6_bitCount_0f7a4 cJ6_bitCount_0f7a4 1 (some .int), Cond.constant RJ6 265 (1431655765), Cond.constant RJ6 266 (858993459), Cond.constant RJ6 267 (252645135), Cond.methodLink RX11 139 yX2_renew, Cond.instanceMethod yX2_renew, Cond.selects RX2 yX2_renew yX2_renew, Cond.code yX2_renew cX2_renew 2 none, Cond.fieldLink RX2 38 "BallPots$Draws" "total" "I", Cond.methodLink RX2 52 yJ7_fill_fda19, Cond.static yJ7_fill_fda19, Cond.code yJ7_fill_fda19 cJ7_fill_fda19 5 none, Cond.methodLink RJ7 13 yJ7_rangeCheck_23922, Cond.static yJ7_rangeCheck_23922, Cond.code yJ7_rangeCheck_23922 cJ7_rangeCheck_23922 3 none, Cond.classLink RJ7 68 RJx00060, Cond.instantiable RJx00060 6, Cond.initialized RJx00060, Cond.methodLink RX2 64 yX2_tellHeld, Cond.instanceMethod yX2_tellHeld]
def wsX11_init_r10 : List Cond := [Cond.selects RX2 yX2_tellHeld yX2_tellHeld, Cond.code yX2_tellHeld cX2_tellHeld 7 none, Cond.methodLink RX2 84 yX4_groupAt, Cond.methodLink RX2 71 yX2_breakBar, Cond.instanceMethod yX2_breakBar, Cond.selects RX2 yX2_breakBar yX2_breakBar, Cond.code yX2_breakBar cX2_breakBar 8 none, Cond.constant RX2 91 (34952), Cond.methodLink RX2 88 yX2_rankIn, Cond.instanceMethod yX2_rankIn, Cond.selects RX2 yX2_rankIn yX2_rankIn, Cond.code yX2_rankIn cX2_rankIn 5 (some .int), Cond.methodLink RX2 75 yX2_listLawful, Cond.instanceMethod yX2_listLawful, Cond.selects RX2 yX2_listLawful yX2_listLawful, Cond.code yX2_listLawful cX2_listLawful 2 none, Cond.fieldLink RX2 92 "BallPots$Draws" "lawfulOnes" "I", Cond.methodLink RX2 78 yX2_tellWithin, Cond.instanceMethod yX2_tellWithin, Cond.selects RX2 yX2_tellWithin yX2_tellWithin, Cond.code yX2_tellWithin cX2_tellWithin 2 none, Cond.methodLink RX2 95 yJ7_fill_53178, Cond.methodLink RX2 98 yX2_addUp, Cond.static yX2_addUp]
def wsX11_init_r11 : List Cond := [Cond.code yX2_addUp cX2_addUp 5 none, Cond.methodLink RX11 142 yX8_putInTurn, Cond.instanceMethod yX8_putInTurn, Cond.selects RX8 yX8_putInTurn yX8_putInTurn, Cond.code yX8_putInTurn cX8_putInTurn 1 none, Cond.methodLink RX8 38 arraycopyName, Cond.native arraycopyName, Cond.static arraycopyName, Cond.initialized "java/lang/System", Cond.methodLink RX8 44 yX8_empty, Cond.instanceMethod yX8_empty, Cond.selects RX8 yX8_empty yX8_empty, Cond.code yX8_empty cX8_empty 1 none, Cond.fieldLink RX8 47 "BallPots$Stage" "out" "I", Cond.methodLink RX8 51 yJ7_fill_53178, Cond.methodLink RX11 151 yX9_forget, Cond.instanceMethod yX9_forget, Cond.selects RX9 yX9_forget yX9_forget, Cond.code yX9_forget cX9_forget 1 none, Cond.fieldLink RX9 33 "BallPots$Swaps" "partsFresh" "Z", Cond.methodLink RX11 154 yX11_startChanged, Cond.instanceMethod yX11_startChanged, Cond.selects RX11 yX11_startChanged yX11_startChanged, Cond.code yX11_startChanged cX11_startChanged 1 none]
def wsX11_init_r12 : List Cond := [Cond.methodLink RX11 157 yX11_stageChanged, Cond.instanceMethod yX11_stageChanged, Cond.selects RX11 yX11_stageChanged yX11_stageChanged, Cond.code yX11_stageChanged cX11_stageChanged 2 none]
def wsX11_init : List Cond := .code yX11_init cX11_init 2 none :: ((wsX11_init_r1 ++ (wsX11_init_r2 ++ (wsX11_init_r3 ++ (wsX11_init_r4 ++ (wsX11_init_r5 ++ (wsX11_init_r6 ++ (wsX11_init_r7 ++ (wsX11_init_r8 ++ (wsX11_init_r9 ++ (wsX11_init_r10 ++ (wsX11_init_r11 ++ wsX11_init_r12))))))))))) ++ wsX110 ++ wsX30 ++ wsX50 ++ wsX40 ++ wsX20 ++ wsX80 ++ wsX100 ++ wsX60 ++ wsX10 ++ wsX00 ++ wsX90 ++ wsX70 ++ wsJx000600 ++ (vx_atM "java/lang/ArrayIndexOutOfBoundsException" ["java/lang/IndexOutOfBoundsException", "java/lang/RuntimeException", "java/lang/Exception"]).filter goodWord)
theorem dX0_init_0 : decode cX0_init 0 = .ok (.aload_n 0, 1) := by decide +kernel
theorem dX0_init_1 : decode cX0_init 1 = .ok (.invokespecial 3, 3) := by decide +kernel
theorem dX0_init_4 : decode cX0_init 4 = .ok (.aload_n 0, 1) := by decide +kernel
theorem dX0_init_5 : decode cX0_init 5 = .ok (.sipush 144, 3) := by decide +kernel
theorem dX0_init_8 : decode cX0_init 8 = .ok (.newarray .int, 2) := by decide +kernel
theorem dX0_init_10 : decode cX0_init 10 = .ok (.putfield 11, 3) := by decide +kernel
theorem dX0_init_13 : decode cX0_init 13 = .ok (.aload_n 0, 1) := by decide +kernel
theorem dX0_init_14 : decode cX0_init 14 = .ok (.aload_n 1, 1) := by decide +kernel
theorem dX0_init_15 : decode cX0_init 15 = .ok (.putfield 15, 3) := by decide +kernel
theorem dX0_init_18 : decode cX0_init 18 = .ok (.aload_n 0, 1) := by decide +kernel
theorem dX0_init_19 : decode cX0_init 19 = .ok (.aload_n 1, 1) := by decide +kernel
theorem dX0_init_20 : decode cX0_init 20 = .ok (.getfield 19, 3) := by decide +kernel
theorem dX0_init_23 : decode cX0_init 23 = .ok (.putfield 25, 3) := by decide +kernel
theorem dX0_init_26 : decode cX0_init 26 = .ok (.aload_n 0, 1) := by decide +kernel
theorem dX0_init_27 : decode cX0_init 27 = .ok (.aload_n 1, 1) := by decide +kernel
theorem dX0_init_28 : decode cX0_init 28 = .ok (.getfield 26, 3) := by decide +kernel
theorem dX0_init_31 : decode cX0_init 31 = .ok (.putfield 30, 3) := by decide +kernel
theorem dX0_init_34 : decode cX0_init 34 = .ok (.return_, 1) := by decide +kernel
theorem dX1_init_0 : decode cX1_init 0 = .ok (.aload_n 0, 1) := by decide +kernel
theorem dX1_init_1 : decode cX1_init 1 = .ok (.invokespecial 3, 3) := by decide +kernel
theorem dX1_init_4 : decode cX1_init 4 = .ok (.aload_n 0, 1) := by decide +kernel
theorem dX1_init_5 : decode cX1_init 5 = .ok (.sipush 144, 3) := by decide +kernel
theorem dX1_init_8 : decode cX1_init 8 = .ok (.newarray .long, 2) := by decide +kernel
theorem dX1_init_10 : decode cX1_init 10 = .ok (.putfield 9, 3) := by decide +kernel
theorem dX1_init_13 : decode cX1_init 13 = .ok (.aload_n 0, 1) := by decide +kernel
theorem dX1_init_14 : decode cX1_init 14 = .ok (.bipush 48, 2) := by decide +kernel
theorem dX1_init_16 : decode cX1_init 16 = .ok (.newarray .long, 2) := by decide +kernel
theorem dX1_init_18 : decode cX1_init 18 = .ok (.putfield 15, 3) := by decide +kernel
theorem dX1_init_21 : decode cX1_init 21 = .ok (.return_, 1) := by decide +kernel
theorem dX2_init_0 : decode cX2_init 0 = .ok (.aload_n 0, 1) := by decide +kernel
theorem dX2_init_1 : decode cX2_init 1 = .ok (.invokespecial 3, 3) := by decide +kernel
theorem dX2_init_4 : decode cX2_init 4 = .ok (.aload_n 0, 1) := by decide +kernel
theorem dX2_init_5 : decode cX2_init 5 = .ok (.iconst 4, 1) := by decide +kernel
theorem dX2_init_6 : decode cX2_init 6 = .ok (.newarray .int, 2) := by decide +kernel
theorem dX2_init_8 : decode cX2_init 8 = .ok (.putfield 9, 3) := by decide +kernel
theorem dX2_init_11 : decode cX2_init 11 = .ok (.aload_n 0, 1) := by decide +kernel
theorem dX2_init_12 : decode cX2_init 12 = .ok (.iconst 1, 1) := by decide +kernel
theorem dX2_init_13 : decode cX2_init 13 = .ok (.newarray .int, 2) := by decide +kernel
theorem dX2_init_15 : decode cX2_init 15 = .ok (.putfield 15, 3) := by decide +kernel
theorem dX2_init_18 : decode cX2_init 18 = .ok (.aload_n 0, 1) := by decide +kernel
theorem dX2_init_19 : decode cX2_init 19 = .ok (.iconst 1, 1) := by decide +kernel
theorem dX2_init_20 : decode cX2_init 20 = .ok (.newarray .int, 2) := by decide +kernel
theorem dX2_init_22 : decode cX2_init 22 = .ok (.putfield 18, 3) := by decide +kernel
theorem dX2_init_25 : decode cX2_init 25 = .ok (.aload_n 0, 1) := by decide +kernel
theorem dX2_init_26 : decode cX2_init 26 = .ok (.sipush 1024, 3) := by decide +kernel
theorem dX2_init_29 : decode cX2_init 29 = .ok (.newarray .int, 2) := by decide +kernel
theorem dX2_init_31 : decode cX2_init 31 = .ok (.putfield 21, 3) := by decide +kernel
theorem dX2_init_34 : decode cX2_init 34 = .ok (.aload_n 0, 1) := by decide +kernel
theorem dX2_init_35 : decode cX2_init 35 = .ok (.sipush 1024, 3) := by decide +kernel
theorem dX2_init_38 : decode cX2_init 38 = .ok (.newarray .int, 2) := by decide +kernel
theorem dX2_init_40 : decode cX2_init 40 = .ok (.putfield 24, 3) := by decide +kernel
theorem dX2_init_43 : decode cX2_init 43 = .ok (.aload_n 0, 1) := by decide +kernel
theorem dX2_init_44 : decode cX2_init 44 = .ok (.bipush 96, 2) := by decide +kernel
theorem dX2_init_46 : decode cX2_init 46 = .ok (.newarray .int, 2) := by decide +kernel
theorem dX2_init_48 : decode cX2_init 48 = .ok (.putfield 27, 3) := by decide +kernel
theorem dX2_init_51 : decode cX2_init 51 = .ok (.aload_n 0, 1) := by decide +kernel
theorem dX2_init_52 : decode cX2_init 52 = .ok (.aload_n 1, 1) := by decide +kernel
theorem dX2_init_53 : decode cX2_init 53 = .ok (.putfield 30, 3) := by decide +kernel
theorem dX2_init_56 : decode cX2_init 56 = .ok (.aload_n 0, 1) := by decide +kernel
theorem dX2_init_57 : decode cX2_init 57 = .ok (.aload_n 2, 1) := by decide +kernel
theorem dX2_init_58 : decode cX2_init 58 = .ok (.putfield 34, 3) := by decide +kernel
theorem dX2_init_61 : decode cX2_init 61 = .ok (.return_, 1) := by decide +kernel
set_option maxRecDepth 20000 in
theorem ggX2_renew_J7_fill_fda19 : GoodIn wsX2_renew wsJ7_fill_fda19 := goodIn_r _ [11, 12, 13, 10, 14, 15, 16, 17, 85, 86, 87, 88, 89, 90] (by decide +kernel) (by decide +kernel)
set_option maxRecDepth 20000 in
theorem gX2_renew_J7_fill_fda19 : GoodIn wsX2_renew (va_wsS RX2 52 yJ7_fill_fda19 wsJ7_fill_fda19) := goodIn_app (goodIn_of _ (by decide +kernel)) ggX2_renew_J7_fill_fda19
set_option maxRecDepth 20000 in
theorem ggX2_renew_X2_listLawful : GoodIn wsX2_renew wsX2_listLawful := goodIn_ca (goodIn_r _ [42, 43, 1, 5, 7, 55, 56, 57, 58, 59, 60, 61, 62, 63, 64] (by decide +kernel) (by decide +kernel)) (goodIn_sub (fun _ h => List.mem_cons_of_mem _ (List.mem_append_right _ h)) (by decide +kernel))
set_option maxRecDepth 20000 in
theorem gX2_renew_X2_listLawful : GoodIn wsX2_renew (wsV RX2 75 RX2 yX2_listLawful wsX2_listLawful) := goodIn_app (goodIn_of _ (by decide +kernel)) ggX2_renew_X2_listLawful
set_option maxRecDepth 20000 in
theorem ggX2_renew_X2_tellWithin : GoodIn wsX2_renew wsX2_tellWithin := goodIn_ca (goodIn_r _ [47, 48, 1, 5, 2, 49, 50, 10, 51, 52, 53, 21, 54, 55, 56, 57, 58, 59, 60, 61, 62, 63, 64, 65, 66, 67, 68, 69, 70, 71, 72, 73, 74, 75] (by decide +kernel) (by decide +kernel)) (goodIn_sub (fun _ h => List.mem_cons_of_mem _ (List.mem_append_right _ h)) (by decide +kernel))
set_option maxRecDepth 20000 in
theorem gX2_renew_X2_tellWithin : GoodIn wsX2_renew (wsV RX2 78 RX2 yX2_tellWithin wsX2_tellWithin) := goodIn_app (goodIn_of _ (by decide +kernel)) ggX2_renew_X2_tellWithin
theorem dX2_renew_0 : decode cX2_renew 0 = .ok (.aload_n 0, 1) := by decide +kernel
theorem dX2_renew_1 : decode cX2_renew 1 = .ok (.iconst 1, 1) := by decide +kernel
theorem dX2_renew_2 : decode cX2_renew 2 = .ok (.putfield 38, 3) := by decide +kernel
theorem dX2_renew_5 : decode cX2_renew 5 = .ok (.aload_n 0, 1) := by decide +kernel
theorem dX2_renew_6 : decode cX2_renew 6 = .ok (.getfield 30, 3) := by decide +kernel
theorem dX2_renew_9 : decode cX2_renew 9 = .ok (.getfield 42, 3) := by decide +kernel
theorem dX2_renew_12 : decode cX2_renew 12 = .ok (.iconst 1, 1) := by decide +kernel
theorem dX2_renew_13 : decode cX2_renew 13 = .ok (.isub, 1) := by decide +kernel
theorem dX2_renew_14 : decode cX2_renew 14 = .ok (.istore_n 1, 1) := by decide +kernel
theorem dX2_renew_15 : decode cX2_renew 15 = .ok (.iload_n 1, 1) := by decide +kernel
theorem dX2_renew_16 : decode cX2_renew 16 = .ok (.ifCond .lt 35, 3) := by decide +kernel
theorem dX2_renew_51 : decode cX2_renew 51 = .ok (.aload_n 0, 1) := by decide +kernel
theorem dX2_renew_52 : decode cX2_renew 52 = .ok (.getfield 15, 3) := by decide +kernel
theorem dX2_renew_55 : decode cX2_renew 55 = .ok (.arraylength, 1) := by decide +kernel
theorem dX2_renew_56 : decode cX2_renew 56 = .ok (.aload_n 0, 1) := by decide +kernel
theorem dX2_renew_57 : decode cX2_renew 57 = .ok (.getfield 38, 3) := by decide +kernel
theorem dX2_renew_60 : decode cX2_renew 60 = .ok (.if_icmp .ge 23, 3) := by decide +kernel
theorem dX2_renew_83 : decode cX2_renew 83 = .ok (.aload_n 0, 1) := by decide +kernel
theorem dX2_renew_84 : decode cX2_renew 84 = .ok (.getfield 15, 3) := by decide +kernel
theorem dX2_renew_87 : decode cX2_renew 87 = .ok (.iconst 0, 1) := by decide +kernel
theorem dX2_renew_88 : decode cX2_renew 88 = .ok (.aload_n 0, 1) := by decide +kernel
theorem dX2_renew_89 : decode cX2_renew 89 = .ok (.getfield 38, 3) := by decide +kernel
theorem dX2_renew_92 : decode cX2_renew 92 = .ok (.iconst 0, 1) := by decide +kernel
theorem dX2_renew_93 : decode cX2_renew 93 = .ok (.invokestatic 52, 3) := by decide +kernel
theorem dX2_renew_96 : decode cX2_renew 96 = .ok (.aload_n 0, 1) := by decide +kernel
theorem dX2_renew_97 : decode cX2_renew 97 = .ok (.getfield 30, 3) := by decide +kernel
theorem dX2_renew_100 : decode cX2_renew 100 = .ok (.getfield 42, 3) := by decide +kernel
theorem dX2_renew_103 : decode cX2_renew 103 = .ok (.ifCond .le 55, 3) := by decide +kernel
theorem dX2_renew_158 : decode cX2_renew 158 = .ok (.aload_n 0, 1) := by decide +kernel
theorem dX2_renew_159 : decode cX2_renew 159 = .ok (.invokevirtual 75, 3) := by decide +kernel
theorem dX2_renew_162 : decode cX2_renew 162 = .ok (.aload_n 0, 1) := by decide +kernel
theorem dX2_renew_163 : decode cX2_renew 163 = .ok (.invokevirtual 78, 3) := by decide +kernel
theorem dX2_renew_166 : decode cX2_renew 166 = .ok (.return_, 1) := by decide +kernel
theorem dX2_listLawful_0 : decode cX2_listLawful 0 = .ok (.aload_n 0, 1) := by decide +kernel
theorem dX2_listLawful_1 : decode cX2_listLawful 1 = .ok (.iconst 0, 1) := by decide +kernel
theorem dX2_listLawful_2 : decode cX2_listLawful 2 = .ok (.putfield 92, 3) := by decide +kernel
theorem dX2_listLawful_5 : decode cX2_listLawful 5 = .ok (.iconst 0, 1) := by decide +kernel
theorem dX2_listLawful_6 : decode cX2_listLawful 6 = .ok (.istore_n 1, 1) := by decide +kernel
theorem dX2_listLawful_7 : decode cX2_listLawful 7 = .ok (.iload_n 1, 1) := by decide +kernel
theorem dX2_listLawful_8 : decode cX2_listLawful 8 = .ok (.aload_n 0, 1) := by decide +kernel
theorem dX2_listLawful_9 : decode cX2_listLawful 9 = .ok (.getfield 38, 3) := by decide +kernel
theorem dX2_listLawful_12 : decode cX2_listLawful 12 = .ok (.if_icmp .ge 38, 3) := by decide +kernel
theorem dX2_listLawful_15 : decode cX2_listLawful 15 = .ok (.aload_n 0, 1) := by decide +kernel
theorem dX2_listLawful_16 : decode cX2_listLawful 16 = .ok (.getfield 15, 3) := by decide +kernel
theorem dX2_listLawful_19 : decode cX2_listLawful 19 = .ok (.iload_n 1, 1) := by decide +kernel
theorem dX2_listLawful_20 : decode cX2_listLawful 20 = .ok (.iaload, 1) := by decide +kernel
theorem dX2_listLawful_21 : decode cX2_listLawful 21 = .ok (.ifCond .ne 23, 3) := by decide +kernel
theorem dX2_listLawful_24 : decode cX2_listLawful 24 = .ok (.aload_n 0, 1) := by decide +kernel
theorem dX2_listLawful_25 : decode cX2_listLawful 25 = .ok (.getfield 18, 3) := by decide +kernel
theorem dX2_listLawful_28 : decode cX2_listLawful 28 = .ok (.aload_n 0, 1) := by decide +kernel
theorem dX2_listLawful_29 : decode cX2_listLawful 29 = .ok (.getfield 92, 3) := by decide +kernel
theorem dX2_listLawful_32 : decode cX2_listLawful 32 = .ok (.iload_n 1, 1) := by decide +kernel
theorem dX2_listLawful_33 : decode cX2_listLawful 33 = .ok (.iastore, 1) := by decide +kernel
theorem dX2_listLawful_34 : decode cX2_listLawful 34 = .ok (.aload_n 0, 1) := by decide +kernel
theorem dX2_listLawful_35 : decode cX2_listLawful 35 = .ok (.dup, 1) := by decide +kernel
theorem dX2_listLawful_36 : decode cX2_listLawful 36 = .ok (.getfield 92, 3) := by decide +kernel
theorem dX2_listLawful_39 : decode cX2_listLawful 39 = .ok (.iconst 1, 1) := by decide +kernel
theorem dX2_listLawful_40 : decode cX2_listLawful 40 = .ok (.iadd, 1) := by decide +kernel
theorem dX2_listLawful_41 : decode cX2_listLawful 41 = .ok (.putfield 92, 3) := by decide +kernel
theorem dX2_listLawful_44 : decode cX2_listLawful 44 = .ok (.iinc 1 1, 3) := by decide +kernel
theorem dX2_listLawful_47 : decode cX2_listLawful 47 = .ok (.goto (-40), 3) := by decide +kernel
theorem dX2_listLawful_50 : decode cX2_listLawful 50 = .ok (.return_, 1) := by decide +kernel
set_option maxRecDepth 20000 in
theorem ggX2_tellWithin_J7_fill_53178 : GoodIn wsX2_tellWithin wsJ7_fill_53178 := goodIn_r _ [8] (by decide +kernel) (by decide +kernel)
set_option maxRecDepth 20000 in
theorem gX2_tellWithin_J7_fill_53178 : GoodIn wsX2_tellWithin (va_wsS RX2 95 yJ7_fill_53178 wsJ7_fill_53178) := goodIn_app (goodIn_of _ (by decide +kernel)) ggX2_tellWithin_J7_fill_53178
set_option maxRecDepth 20000 in
theorem ggX2_tellWithin_X2_addUp : GoodIn wsX2_tellWithin wsX2_addUp := goodIn_ca (goodIn_r _ [12] (by decide +kernel) (by decide +kernel)) (goodIn_sub (fun _ h => List.mem_cons_of_mem _ (List.mem_append_right _ h)) (by decide +kernel))
set_option maxRecDepth 20000 in
theorem gX2_tellWithin_X2_addUp : GoodIn wsX2_tellWithin (va_wsS RX2 98 yX2_addUp wsX2_addUp) := goodIn_app (goodIn_of _ (by decide +kernel)) ggX2_tellWithin_X2_addUp
theorem dX2_tellWithin_0 : decode cX2_tellWithin 0 = .ok (.aload_n 0, 1) := by decide +kernel
theorem dX2_tellWithin_1 : decode cX2_tellWithin 1 = .ok (.getfield 21, 3) := by decide +kernel
theorem dX2_tellWithin_4 : decode cX2_tellWithin 4 = .ok (.iconst 0, 1) := by decide +kernel
theorem dX2_tellWithin_5 : decode cX2_tellWithin 5 = .ok (.invokestatic 95, 3) := by decide +kernel
theorem dX2_tellWithin_8 : decode cX2_tellWithin 8 = .ok (.iconst 0, 1) := by decide +kernel
theorem dX2_tellWithin_9 : decode cX2_tellWithin 9 = .ok (.istore_n 1, 1) := by decide +kernel
theorem dX2_tellWithin_10 : decode cX2_tellWithin 10 = .ok (.iload_n 1, 1) := by decide +kernel
theorem dX2_tellWithin_11 : decode cX2_tellWithin 11 = .ok (.aload_n 0, 1) := by decide +kernel
theorem dX2_tellWithin_12 : decode cX2_tellWithin 12 = .ok (.getfield 38, 3) := by decide +kernel
theorem dX2_tellWithin_15 : decode cX2_tellWithin 15 = .ok (.if_icmp .ge 24, 3) := by decide +kernel
theorem dX2_tellWithin_18 : decode cX2_tellWithin 18 = .ok (.aload_n 0, 1) := by decide +kernel
theorem dX2_tellWithin_19 : decode cX2_tellWithin 19 = .ok (.getfield 21, 3) := by decide +kernel
theorem dX2_tellWithin_22 : decode cX2_tellWithin 22 = .ok (.aload_n 0, 1) := by decide +kernel
theorem dX2_tellWithin_23 : decode cX2_tellWithin 23 = .ok (.getfield 15, 3) := by decide +kernel
theorem dX2_tellWithin_26 : decode cX2_tellWithin 26 = .ok (.iload_n 1, 1) := by decide +kernel
theorem dX2_tellWithin_27 : decode cX2_tellWithin 27 = .ok (.iaload, 1) := by decide +kernel
theorem dX2_tellWithin_28 : decode cX2_tellWithin 28 = .ok (.dup2, 1) := by decide +kernel
theorem dX2_tellWithin_29 : decode cX2_tellWithin 29 = .ok (.iaload, 1) := by decide +kernel
theorem dX2_tellWithin_30 : decode cX2_tellWithin 30 = .ok (.iconst 1, 1) := by decide +kernel
theorem dX2_tellWithin_31 : decode cX2_tellWithin 31 = .ok (.iadd, 1) := by decide +kernel
theorem dX2_tellWithin_32 : decode cX2_tellWithin 32 = .ok (.iastore, 1) := by decide +kernel
theorem dX2_tellWithin_33 : decode cX2_tellWithin 33 = .ok (.iinc 1 1, 3) := by decide +kernel
theorem dX2_tellWithin_36 : decode cX2_tellWithin 36 = .ok (.goto (-26), 3) := by decide +kernel
theorem dX2_tellWithin_39 : decode cX2_tellWithin 39 = .ok (.aload_n 0, 1) := by decide +kernel
theorem dX2_tellWithin_40 : decode cX2_tellWithin 40 = .ok (.getfield 21, 3) := by decide +kernel
theorem dX2_tellWithin_43 : decode cX2_tellWithin 43 = .ok (.aload_n 0, 1) := by decide +kernel
theorem dX2_tellWithin_44 : decode cX2_tellWithin 44 = .ok (.getfield 30, 3) := by decide +kernel
theorem dX2_tellWithin_47 : decode cX2_tellWithin 47 = .ok (.getfield 58, 3) := by decide +kernel
theorem dX2_tellWithin_50 : decode cX2_tellWithin 50 = .ok (.invokestatic 98, 3) := by decide +kernel
theorem dX2_tellWithin_53 : decode cX2_tellWithin 53 = .ok (.return_, 1) := by decide +kernel
theorem dX2_addUp_0 : decode cX2_addUp 0 = .ok (.iconst 0, 1) := by decide +kernel
theorem dX2_addUp_1 : decode cX2_addUp 1 = .ok (.istore_n 2, 1) := by decide +kernel
theorem dX2_addUp_2 : decode cX2_addUp 2 = .ok (.iload_n 2, 1) := by decide +kernel
theorem dX2_addUp_3 : decode cX2_addUp 3 = .ok (.iload_n 1, 1) := by decide +kernel
theorem dX2_addUp_4 : decode cX2_addUp 4 = .ok (.if_icmp .ge 50, 3) := by decide +kernel
theorem dX2_addUp_54 : decode cX2_addUp 54 = .ok (.return_, 1) := by decide +kernel
theorem dX3_init_0 : decode cX3_init 0 = .ok (.aload_n 0, 1) := by decide +kernel
theorem dX3_init_1 : decode cX3_init 1 = .ok (.invokespecial 3, 3) := by decide +kernel
theorem dX3_init_4 : decode cX3_init 4 = .ok (.aload_n 0, 1) := by decide +kernel
theorem dX3_init_5 : decode cX3_init 5 = .ok (.bipush 12, 2) := by decide +kernel
theorem dX3_init_7 : decode cX3_init 7 = .ok (.newarray .int, 2) := by decide +kernel
theorem dX3_init_9 : decode cX3_init 9 = .ok (.putfield 9, 3) := by decide +kernel
theorem dX3_init_12 : decode cX3_init 12 = .ok (.aload_n 0, 1) := by decide +kernel
theorem dX3_init_13 : decode cX3_init 13 = .ok (.bipush 12, 2) := by decide +kernel
theorem dX3_init_15 : decode cX3_init 15 = .ok (.newarray .int, 2) := by decide +kernel
theorem dX3_init_17 : decode cX3_init 17 = .ok (.putfield 15, 3) := by decide +kernel
theorem dX3_init_20 : decode cX3_init 20 = .ok (.aload_n 0, 1) := by decide +kernel
theorem dX3_init_21 : decode cX3_init 21 = .ok (.bipush 6, 2) := by decide +kernel
theorem dX3_init_23 : decode cX3_init 23 = .ok (.newarray .int, 2) := by decide +kernel
theorem dX3_init_25 : decode cX3_init 25 = .ok (.putfield 18, 3) := by decide +kernel
theorem dX3_init_28 : decode cX3_init 28 = .ok (.aload_n 0, 1) := by decide +kernel
theorem dX3_init_29 : decode cX3_init 29 = .ok (.bipush 10, 2) := by decide +kernel
theorem dX3_init_31 : decode cX3_init 31 = .ok (.newarray .int, 2) := by decide +kernel
theorem dX3_init_33 : decode cX3_init 33 = .ok (.putfield 21, 3) := by decide +kernel
theorem dX3_init_36 : decode cX3_init 36 = .ok (.aload_n 0, 1) := by decide +kernel
theorem dX3_init_37 : decode cX3_init 37 = .ok (.bipush 10, 2) := by decide +kernel
theorem dX3_init_39 : decode cX3_init 39 = .ok (.newarray .int, 2) := by decide +kernel
theorem dX3_init_41 : decode cX3_init 41 = .ok (.putfield 24, 3) := by decide +kernel
theorem dX3_init_44 : decode cX3_init 44 = .ok (.aload_n 0, 1) := by decide +kernel
theorem dX3_init_45 : decode cX3_init 45 = .ok (.iconst 2, 1) := by decide +kernel
theorem dX3_init_46 : decode cX3_init 46 = .ok (.putfield 27, 3) := by decide +kernel
theorem dX3_init_49 : decode cX3_init 49 = .ok (.return_, 1) := by decide +kernel
theorem dX4_init_0 : decode cX4_init 0 = .ok (.aload_n 0, 1) := by decide +kernel
theorem dX4_init_1 : decode cX4_init 1 = .ok (.invokespecial 3, 3) := by decide +kernel
theorem dX4_init_4 : decode cX4_init 4 = .ok (.aload_n 0, 1) := by decide +kernel
theorem dX4_init_5 : decode cX4_init 5 = .ok (.bipush 96, 2) := by decide +kernel
theorem dX4_init_7 : decode cX4_init 7 = .ok (.newarray .int, 2) := by decide +kernel
theorem dX4_init_9 : decode cX4_init 9 = .ok (.putfield 9, 3) := by decide +kernel
theorem dX4_init_12 : decode cX4_init 12 = .ok (.aload_n 0, 1) := by decide +kernel
theorem dX4_init_13 : decode cX4_init 13 = .ok (.bipush 96, 2) := by decide +kernel
theorem dX4_init_15 : decode cX4_init 15 = .ok (.newarray .int, 2) := by decide +kernel
theorem dX4_init_17 : decode cX4_init 17 = .ok (.putfield 15, 3) := by decide +kernel
theorem dX4_init_20 : decode cX4_init 20 = .ok (.aload_n 0, 1) := by decide +kernel
theorem dX4_init_21 : decode cX4_init 21 = .ok (.bipush 16, 2) := by decide +kernel
theorem dX4_init_23 : decode cX4_init 23 = .ok (.newarray .int, 2) := by decide +kernel
theorem dX4_init_25 : decode cX4_init 25 = .ok (.putfield 18, 3) := by decide +kernel
theorem dX4_init_28 : decode cX4_init 28 = .ok (.aload_n 0, 1) := by decide +kernel
theorem dX4_init_29 : decode cX4_init 29 = .ok (.sipush 144, 3) := by decide +kernel
theorem dX4_init_32 : decode cX4_init 32 = .ok (.newarray .int, 2) := by decide +kernel
theorem dX4_init_34 : decode cX4_init 34 = .ok (.putfield 21, 3) := by decide +kernel
theorem dX4_init_37 : decode cX4_init 37 = .ok (.aload_n 0, 1) := by decide +kernel
theorem dX4_init_38 : decode cX4_init 38 = .ok (.iconst 4, 1) := by decide +kernel
theorem dX4_init_39 : decode cX4_init 39 = .ok (.newarray .int, 2) := by decide +kernel
theorem dX4_init_41 : decode cX4_init 41 = .ok (.putfield 24, 3) := by decide +kernel
theorem dX4_init_44 : decode cX4_init 44 = .ok (.return_, 1) := by decide +kernel
set_option maxRecDepth 20000 in
theorem ggX4_set_J7_fill_53178 : GoodIn wsX4_set wsJ7_fill_53178 := goodIn_r _ [9] (by decide +kernel) (by decide +kernel)
set_option maxRecDepth 20000 in
theorem gX4_set_J7_fill_53178 : GoodIn wsX4_set (va_wsS RX4 34 yJ7_fill_53178 wsJ7_fill_53178) := goodIn_app (goodIn_of _ (by decide +kernel)) ggX4_set_J7_fill_53178
set_option maxRecDepth 20000 in
theorem ggX4_set_X4_readRow : GoodIn wsX4_set wsX4_readRow := goodIn_ca (goodIn_r _ [13] (by decide +kernel) (by decide +kernel)) (goodIn_sub (fun _ h => List.mem_cons_of_mem _ (List.mem_append_right _ h)) (by decide +kernel))
set_option maxRecDepth 20000 in
theorem gX4_set_X4_readRow : GoodIn wsX4_set (va_wsS RX4 40 yX4_readRow wsX4_readRow) := goodIn_app (goodIn_of _ (by decide +kernel)) ggX4_set_X4_readRow
set_option maxRecDepth 20000 in
theorem ggX4_set_X4_addRow : GoodIn wsX4_set wsX4_addRow := goodIn_ca (goodIn_r _ [17, 1, 4, 18, 2, 19, 3, 44, 45, 46, 47, 48, 49, 50, 51, 52] (by decide +kernel) (by decide +kernel)) (goodIn_sub (fun _ h => List.mem_cons_of_mem _ (List.mem_append_right _ h)) (by decide +kernel))
set_option maxRecDepth 20000 in
theorem gX4_set_X4_addRow : GoodIn wsX4_set (wsV RX4 44 RX4 yX4_addRow wsX4_addRow) := goodIn_app (goodIn_of _ (by decide +kernel)) ggX4_set_X4_addRow
set_option maxRecDepth 20000 in
theorem ggX4_set_X4_setSwaps : GoodIn wsX4_set wsX4_setSwaps := goodIn_ca (goodIn_r _ [23, 1, 24, 25, 26, 27, 28, 12, 29, 5, 3, 30, 31, 32, 33, 18, 34, 35, 36, 37, 38, 39, 40, 41, 42, 43, 44, 45, 46, 47, 48, 49, 50, 51, 52] (by decide +kernel) (by decide +kernel)) (goodIn_sub (fun _ h => List.mem_cons_of_mem _ (List.mem_append_right _ h)) (by decide +kernel))
set_option maxRecDepth 20000 in
theorem gX4_set_X4_setSwaps : GoodIn wsX4_set (wsV RX4 50 RX4 yX4_setSwaps wsX4_setSwaps) := goodIn_app (goodIn_of _ (by decide +kernel)) ggX4_set_X4_setSwaps
theorem dX4_set_0 : decode cX4_set 0 = .ok (.iload_n 1, 1) := by decide +kernel
theorem dX4_set_1 : decode cX4_set 1 = .ok (.aload_n 0, 1) := by decide +kernel
theorem dX4_set_2 : decode cX4_set 2 = .ok (.getfield 27, 3) := by decide +kernel
theorem dX4_set_5 : decode cX4_set 5 = .ok (.if_icmp .eq 13, 3) := by decide +kernel
theorem dX4_set_8 : decode cX4_set 8 = .ok (.iload_n 1, 1) := by decide +kernel
theorem dX4_set_9 : decode cX4_set 9 = .ok (.iconst 1, 1) := by decide +kernel
theorem dX4_set_10 : decode cX4_set 10 = .ok (.if_icmp .lt 8, 3) := by decide +kernel
theorem dX4_set_13 : decode cX4_set 13 = .ok (.iload_n 1, 1) := by decide +kernel
theorem dX4_set_14 : decode cX4_set 14 = .ok (.iconst 4, 1) := by decide +kernel
theorem dX4_set_15 : decode cX4_set 15 = .ok (.if_icmp .le 4, 3) := by decide +kernel
theorem dX4_set_19 : decode cX4_set 19 = .ok (.aload_n 0, 1) := by decide +kernel
theorem dX4_set_20 : decode cX4_set 20 = .ok (.iload_n 1, 1) := by decide +kernel
theorem dX4_set_21 : decode cX4_set 21 = .ok (.putfield 27, 3) := by decide +kernel
theorem dX4_set_24 : decode cX4_set 24 = .ok (.aload_n 0, 1) := by decide +kernel
theorem dX4_set_25 : decode cX4_set 25 = .ok (.iconst 0, 1) := by decide +kernel
theorem dX4_set_26 : decode cX4_set 26 = .ok (.putfield 31, 3) := by decide +kernel
theorem dX4_set_29 : decode cX4_set 29 = .ok (.aload_n 0, 1) := by decide +kernel
theorem dX4_set_30 : decode cX4_set 30 = .ok (.getfield 18, 3) := by decide +kernel
theorem dX4_set_33 : decode cX4_set 33 = .ok (.iconst 0, 1) := by decide +kernel
theorem dX4_set_34 : decode cX4_set 34 = .ok (.invokestatic 34, 3) := by decide +kernel
theorem dX4_set_37 : decode cX4_set 37 = .ok (.iconst 0, 1) := by decide +kernel
theorem dX4_set_38 : decode cX4_set 38 = .ok (.istore_n 2, 1) := by decide +kernel
theorem dX4_set_39 : decode cX4_set 39 = .ok (.iload_n 2, 1) := by decide +kernel
theorem dX4_set_40 : decode cX4_set 40 = .ok (.iconst 1, 1) := by decide +kernel
theorem dX4_set_41 : decode cX4_set 41 = .ok (.iconst 2, 1) := by decide +kernel
theorem dX4_set_42 : decode cX4_set 42 = .ok (.iload_n 1, 1) := by decide +kernel
theorem dX4_set_43 : decode cX4_set 43 = .ok (.imul, 1) := by decide +kernel
theorem dX4_set_44 : decode cX4_set 44 = .ok (.ishl, 1) := by decide +kernel
theorem dX4_set_45 : decode cX4_set 45 = .ok (.if_icmp .ge 34, 3) := by decide +kernel
theorem dX4_set_48 : decode cX4_set 48 = .ok (.aload_n 0, 1) := by decide +kernel
theorem dX4_set_49 : decode cX4_set 49 = .ok (.getfield 31, 3) := by decide +kernel
theorem dX4_set_52 : decode cX4_set 52 = .ok (.bipush 24, 2) := by decide +kernel
theorem dX4_set_54 : decode cX4_set 54 = .ok (.if_icmp .ge 19, 3) := by decide +kernel
theorem dX4_set_57 : decode cX4_set 57 = .ok (.iload_n 2, 1) := by decide +kernel
theorem dX4_set_58 : decode cX4_set 58 = .ok (.iload_n 1, 1) := by decide +kernel
theorem dX4_set_59 : decode cX4_set 59 = .ok (.aload_n 0, 1) := by decide +kernel
theorem dX4_set_60 : decode cX4_set 60 = .ok (.getfield 24, 3) := by decide +kernel
theorem dX4_set_63 : decode cX4_set 63 = .ok (.invokestatic 40, 3) := by decide +kernel
theorem dX4_set_66 : decode cX4_set 66 = .ok (.ifCond .eq 7, 3) := by decide +kernel
theorem dX4_set_69 : decode cX4_set 69 = .ok (.aload_n 0, 1) := by decide +kernel
theorem dX4_set_70 : decode cX4_set 70 = .ok (.invokevirtual 44, 3) := by decide +kernel
theorem dX4_set_73 : decode cX4_set 73 = .ok (.iinc 2 1, 3) := by decide +kernel
theorem dX4_set_76 : decode cX4_set 76 = .ok (.goto (-37), 3) := by decide +kernel
theorem dX4_set_79 : decode cX4_set 79 = .ok (.aload_n 0, 1) := by decide +kernel
theorem dX4_set_80 : decode cX4_set 80 = .ok (.iconst 1, 1) := by decide +kernel
theorem dX4_set_81 : decode cX4_set 81 = .ok (.aload_n 0, 1) := by decide +kernel
theorem dX4_set_82 : decode cX4_set 82 = .ok (.getfield 31, 3) := by decide +kernel
theorem dX4_set_85 : decode cX4_set 85 = .ok (.ishl, 1) := by decide +kernel
theorem dX4_set_86 : decode cX4_set 86 = .ok (.iconst 1, 1) := by decide +kernel
theorem dX4_set_87 : decode cX4_set 87 = .ok (.isub, 1) := by decide +kernel
theorem dX4_set_88 : decode cX4_set 88 = .ok (.putfield 47, 3) := by decide +kernel
theorem dX4_set_91 : decode cX4_set 91 = .ok (.iconst 0, 1) := by decide +kernel
theorem dX4_set_92 : decode cX4_set 92 = .ok (.istore_n 2, 1) := by decide +kernel
theorem dX4_set_93 : decode cX4_set 93 = .ok (.iload_n 2, 1) := by decide +kernel
theorem dX4_set_94 : decode cX4_set 94 = .ok (.aload_n 0, 1) := by decide +kernel
theorem dX4_set_95 : decode cX4_set 95 = .ok (.getfield 31, 3) := by decide +kernel
theorem dX4_set_98 : decode cX4_set 98 = .ok (.if_icmp .ge 14, 3) := by decide +kernel
theorem dX4_set_101 : decode cX4_set 101 = .ok (.aload_n 0, 1) := by decide +kernel
theorem dX4_set_102 : decode cX4_set 102 = .ok (.iload_n 2, 1) := by decide +kernel
theorem dX4_set_103 : decode cX4_set 103 = .ok (.invokevirtual 50, 3) := by decide +kernel
theorem dX4_set_106 : decode cX4_set 106 = .ok (.iinc 2 1, 3) := by decide +kernel
theorem dX4_set_109 : decode cX4_set 109 = .ok (.goto (-16), 3) := by decide +kernel
theorem dX4_set_112 : decode cX4_set 112 = .ok (.return_, 1) := by decide +kernel
theorem dX4_readRow_0 : decode cX4_readRow 0 = .ok (.iconst 0, 1) := by decide +kernel
theorem dX4_readRow_1 : decode cX4_readRow 1 = .ok (.istore_n 3, 1) := by decide +kernel
theorem dX4_readRow_2 : decode cX4_readRow 2 = .ok (.iconst 0, 1) := by decide +kernel
theorem dX4_readRow_3 : decode cX4_readRow 3 = .ok (.istore 4, 2) := by decide +kernel
theorem dX4_readRow_5 : decode cX4_readRow 5 = .ok (.iload 4, 2) := by decide +kernel
theorem dX4_readRow_7 : decode cX4_readRow 7 = .ok (.iload_n 1, 1) := by decide +kernel
theorem dX4_readRow_8 : decode cX4_readRow 8 = .ok (.if_icmp .ge 41, 3) := by decide +kernel
theorem dX4_readRow_11 : decode cX4_readRow 11 = .ok (.iload 4, 2) := by decide +kernel
theorem dX4_readRow_13 : decode cX4_readRow 13 = .ok (.aload_n 2, 1) := by decide +kernel
theorem dX4_readRow_14 : decode cX4_readRow 14 = .ok (.arraylength, 1) := by decide +kernel
theorem dX4_readRow_15 : decode cX4_readRow 15 = .ok (.if_icmp .ge 34, 3) := by decide +kernel
theorem dX4_readRow_18 : decode cX4_readRow 18 = .ok (.aload_n 2, 1) := by decide +kernel
theorem dX4_readRow_19 : decode cX4_readRow 19 = .ok (.iload 4, 2) := by decide +kernel
theorem dX4_readRow_21 : decode cX4_readRow 21 = .ok (.iload_n 0, 1) := by decide +kernel
theorem dX4_readRow_22 : decode cX4_readRow 22 = .ok (.iconst 2, 1) := by decide +kernel
theorem dX4_readRow_23 : decode cX4_readRow 23 = .ok (.iload_n 1, 1) := by decide +kernel
theorem dX4_readRow_24 : decode cX4_readRow 24 = .ok (.iconst 1, 1) := by decide +kernel
theorem dX4_readRow_25 : decode cX4_readRow 25 = .ok (.isub, 1) := by decide +kernel
theorem dX4_readRow_26 : decode cX4_readRow 26 = .ok (.iload 4, 2) := by decide +kernel
theorem dX4_readRow_28 : decode cX4_readRow 28 = .ok (.isub, 1) := by decide +kernel
theorem dX4_readRow_29 : decode cX4_readRow 29 = .ok (.imul, 1) := by decide +kernel
theorem dX4_readRow_30 : decode cX4_readRow 30 = .ok (.iushr, 1) := by decide +kernel
theorem dX4_readRow_31 : decode cX4_readRow 31 = .ok (.iconst 3, 1) := by decide +kernel
theorem dX4_readRow_32 : decode cX4_readRow 32 = .ok (.iand, 1) := by decide +kernel
theorem dX4_readRow_33 : decode cX4_readRow 33 = .ok (.iastore, 1) := by decide +kernel
theorem dX4_readRow_34 : decode cX4_readRow 34 = .ok (.iload_n 3, 1) := by decide +kernel
theorem dX4_readRow_35 : decode cX4_readRow 35 = .ok (.iconst 1, 1) := by decide +kernel
theorem dX4_readRow_36 : decode cX4_readRow 36 = .ok (.aload_n 2, 1) := by decide +kernel
theorem dX4_readRow_37 : decode cX4_readRow 37 = .ok (.iload 4, 2) := by decide +kernel
theorem dX4_readRow_39 : decode cX4_readRow 39 = .ok (.iaload, 1) := by decide +kernel
theorem dX4_readRow_40 : decode cX4_readRow 40 = .ok (.ishl, 1) := by decide +kernel
theorem dX4_readRow_41 : decode cX4_readRow 41 = .ok (.ior, 1) := by decide +kernel
theorem dX4_readRow_42 : decode cX4_readRow 42 = .ok (.istore_n 3, 1) := by decide +kernel
theorem dX4_readRow_43 : decode cX4_readRow 43 = .ok (.iinc 4 1, 3) := by decide +kernel
theorem dX4_readRow_46 : decode cX4_readRow 46 = .ok (.goto (-41), 3) := by decide +kernel
theorem dX4_readRow_49 : decode cX4_readRow 49 = .ok (.iload_n 3, 1) := by decide +kernel
theorem dX4_readRow_50 : decode cX4_readRow 50 = .ok (.iconst 1, 1) := by decide +kernel
theorem dX4_readRow_51 : decode cX4_readRow 51 = .ok (.iload_n 1, 1) := by decide +kernel
theorem dX4_readRow_52 : decode cX4_readRow 52 = .ok (.ishl, 1) := by decide +kernel
theorem dX4_readRow_53 : decode cX4_readRow 53 = .ok (.iconst 1, 1) := by decide +kernel
theorem dX4_readRow_54 : decode cX4_readRow 54 = .ok (.isub, 1) := by decide +kernel
theorem dX4_readRow_55 : decode cX4_readRow 55 = .ok (.if_icmp .ne 7, 3) := by decide +kernel
theorem dX4_readRow_58 : decode cX4_readRow 58 = .ok (.iconst 1, 1) := by decide +kernel
theorem dX4_readRow_59 : decode cX4_readRow 59 = .ok (.goto 4, 3) := by decide +kernel
theorem dX4_readRow_62 : decode cX4_readRow 62 = .ok (.iconst 0, 1) := by decide +kernel
theorem dX4_readRow_63 : decode cX4_readRow 63 = .ok (.ireturn, 1) := by decide +kernel
theorem dX4_addRow_0 : decode cX4_addRow 0 = .ok (.iconst 0, 1) := by decide +kernel
theorem dX4_addRow_1 : decode cX4_addRow 1 = .ok (.istore_n 1, 1) := by decide +kernel
theorem dX4_addRow_2 : decode cX4_addRow 2 = .ok (.iload_n 1, 1) := by decide +kernel
theorem dX4_addRow_3 : decode cX4_addRow 3 = .ok (.aload_n 0, 1) := by decide +kernel
theorem dX4_addRow_4 : decode cX4_addRow 4 = .ok (.getfield 27, 3) := by decide +kernel
theorem dX4_addRow_7 : decode cX4_addRow 7 = .ok (.if_icmp .ge 63, 3) := by decide +kernel
theorem dX4_addRow_10 : decode cX4_addRow 10 = .ok (.aload_n 0, 1) := by decide +kernel
theorem dX4_addRow_11 : decode cX4_addRow 11 = .ok (.getfield 24, 3) := by decide +kernel
theorem dX4_addRow_14 : decode cX4_addRow 14 = .ok (.iload_n 1, 1) := by decide +kernel
theorem dX4_addRow_15 : decode cX4_addRow 15 = .ok (.iaload, 1) := by decide +kernel
theorem dX4_addRow_16 : decode cX4_addRow 16 = .ok (.istore_n 2, 1) := by decide +kernel
theorem dX4_addRow_17 : decode cX4_addRow 17 = .ok (.aload_n 0, 1) := by decide +kernel
theorem dX4_addRow_18 : decode cX4_addRow 18 = .ok (.getfield 9, 3) := by decide +kernel
theorem dX4_addRow_21 : decode cX4_addRow 21 = .ok (.aload_n 0, 1) := by decide +kernel
theorem dX4_addRow_22 : decode cX4_addRow 22 = .ok (.getfield 31, 3) := by decide +kernel
theorem dX4_addRow_25 : decode cX4_addRow 25 = .ok (.iconst 4, 1) := by decide +kernel
theorem dX4_addRow_26 : decode cX4_addRow 26 = .ok (.imul, 1) := by decide +kernel
theorem dX4_addRow_27 : decode cX4_addRow 27 = .ok (.iload_n 1, 1) := by decide +kernel
theorem dX4_addRow_28 : decode cX4_addRow 28 = .ok (.iadd, 1) := by decide +kernel
theorem dX4_addRow_29 : decode cX4_addRow 29 = .ok (.iload_n 2, 1) := by decide +kernel
theorem dX4_addRow_30 : decode cX4_addRow 30 = .ok (.iastore, 1) := by decide +kernel
theorem dX4_addRow_31 : decode cX4_addRow 31 = .ok (.aload_n 0, 1) := by decide +kernel
theorem dX4_addRow_32 : decode cX4_addRow 32 = .ok (.getfield 15, 3) := by decide +kernel
theorem dX4_addRow_35 : decode cX4_addRow 35 = .ok (.aload_n 0, 1) := by decide +kernel
theorem dX4_addRow_36 : decode cX4_addRow 36 = .ok (.getfield 31, 3) := by decide +kernel
theorem dX4_addRow_39 : decode cX4_addRow 39 = .ok (.iconst 4, 1) := by decide +kernel
theorem dX4_addRow_40 : decode cX4_addRow 40 = .ok (.imul, 1) := by decide +kernel
theorem dX4_addRow_41 : decode cX4_addRow 41 = .ok (.iload_n 2, 1) := by decide +kernel
theorem dX4_addRow_42 : decode cX4_addRow 42 = .ok (.iadd, 1) := by decide +kernel
theorem dX4_addRow_43 : decode cX4_addRow 43 = .ok (.iload_n 1, 1) := by decide +kernel
theorem dX4_addRow_44 : decode cX4_addRow 44 = .ok (.iastore, 1) := by decide +kernel
theorem dX4_addRow_45 : decode cX4_addRow 45 = .ok (.aload_n 0, 1) := by decide +kernel
theorem dX4_addRow_46 : decode cX4_addRow 46 = .ok (.getfield 18, 3) := by decide +kernel
theorem dX4_addRow_49 : decode cX4_addRow 49 = .ok (.iload_n 1, 1) := by decide +kernel
theorem dX4_addRow_50 : decode cX4_addRow 50 = .ok (.iconst 4, 1) := by decide +kernel
theorem dX4_addRow_51 : decode cX4_addRow 51 = .ok (.imul, 1) := by decide +kernel
theorem dX4_addRow_52 : decode cX4_addRow 52 = .ok (.iload_n 2, 1) := by decide +kernel
theorem dX4_addRow_53 : decode cX4_addRow 53 = .ok (.iadd, 1) := by decide +kernel
theorem dX4_addRow_54 : decode cX4_addRow 54 = .ok (.dup2, 1) := by decide +kernel
theorem dX4_addRow_55 : decode cX4_addRow 55 = .ok (.iaload, 1) := by decide +kernel
theorem dX4_addRow_56 : decode cX4_addRow 56 = .ok (.iconst 1, 1) := by decide +kernel
theorem dX4_addRow_57 : decode cX4_addRow 57 = .ok (.aload_n 0, 1) := by decide +kernel
theorem dX4_addRow_58 : decode cX4_addRow 58 = .ok (.getfield 31, 3) := by decide +kernel
theorem dX4_addRow_61 : decode cX4_addRow 61 = .ok (.ishl, 1) := by decide +kernel
theorem dX4_addRow_62 : decode cX4_addRow 62 = .ok (.ior, 1) := by decide +kernel
theorem dX4_addRow_63 : decode cX4_addRow 63 = .ok (.iastore, 1) := by decide +kernel
theorem dX4_addRow_64 : decode cX4_addRow 64 = .ok (.iinc 1 1, 3) := by decide +kernel
theorem dX4_addRow_67 : decode cX4_addRow 67 = .ok (.goto (-65), 3) := by decide +kernel
theorem dX4_addRow_70 : decode cX4_addRow 70 = .ok (.aload_n 0, 1) := by decide +kernel
theorem dX4_addRow_71 : decode cX4_addRow 71 = .ok (.dup, 1) := by decide +kernel
theorem dX4_addRow_72 : decode cX4_addRow 72 = .ok (.getfield 31, 3) := by decide +kernel
theorem dX4_addRow_75 : decode cX4_addRow 75 = .ok (.iconst 1, 1) := by decide +kernel
theorem dX4_addRow_76 : decode cX4_addRow 76 = .ok (.iadd, 1) := by decide +kernel
theorem dX4_addRow_77 : decode cX4_addRow 77 = .ok (.putfield 31, 3) := by decide +kernel
theorem dX4_addRow_80 : decode cX4_addRow 80 = .ok (.return_, 1) := by decide +kernel
set_option maxRecDepth 20000 in
theorem ggX4_setSwaps_X4_rankWithSwapped : GoodIn wsX4_setSwaps wsX4_rankWithSwapped := goodIn_ca (goodIn_r _ [8, 9, 1, 10, 11, 12, 13, 7, 14, 15, 16, 17, 18, 19, 20, 21, 22, 23, 24, 25, 26, 27, 28, 29, 30, 31, 32, 33, 34] (by decide +kernel) (by decide +kernel)) (goodIn_sub (fun _ h => List.mem_cons_of_mem _ (List.mem_append_right _ h)) (by decide +kernel))
set_option maxRecDepth 20000 in
theorem gX4_setSwaps_X4_rankWithSwapped : GoodIn wsX4_setSwaps (wsV RX4 54 RX4 yX4_rankWithSwapped wsX4_rankWithSwapped) := goodIn_app (goodIn_of _ (by decide +kernel)) ggX4_setSwaps_X4_rankWithSwapped
theorem dX4_setSwaps_0 : decode cX4_setSwaps 0 = .ok (.iconst 0, 1) := by decide +kernel
theorem dX4_setSwaps_1 : decode cX4_setSwaps 1 = .ok (.istore_n 2, 1) := by decide +kernel
theorem dX4_setSwaps_2 : decode cX4_setSwaps 2 = .ok (.iconst 0, 1) := by decide +kernel
theorem dX4_setSwaps_3 : decode cX4_setSwaps 3 = .ok (.istore_n 3, 1) := by decide +kernel
theorem dX4_setSwaps_4 : decode cX4_setSwaps 4 = .ok (.iload_n 3, 1) := by decide +kernel
theorem dX4_setSwaps_5 : decode cX4_setSwaps 5 = .ok (.aload_n 0, 1) := by decide +kernel
theorem dX4_setSwaps_6 : decode cX4_setSwaps 6 = .ok (.getfield 27, 3) := by decide +kernel
theorem dX4_setSwaps_9 : decode cX4_setSwaps 9 = .ok (.if_icmp .ge 51, 3) := by decide +kernel
theorem dX4_setSwaps_12 : decode cX4_setSwaps 12 = .ok (.iload_n 3, 1) := by decide +kernel
theorem dX4_setSwaps_13 : decode cX4_setSwaps 13 = .ok (.iconst 1, 1) := by decide +kernel
theorem dX4_setSwaps_14 : decode cX4_setSwaps 14 = .ok (.iadd, 1) := by decide +kernel
theorem dX4_setSwaps_15 : decode cX4_setSwaps 15 = .ok (.istore 4, 2) := by decide +kernel
theorem dX4_setSwaps_17 : decode cX4_setSwaps 17 = .ok (.iload 4, 2) := by decide +kernel
theorem dX4_setSwaps_19 : decode cX4_setSwaps 19 = .ok (.aload_n 0, 1) := by decide +kernel
theorem dX4_setSwaps_20 : decode cX4_setSwaps 20 = .ok (.getfield 27, 3) := by decide +kernel
theorem dX4_setSwaps_23 : decode cX4_setSwaps 23 = .ok (.if_icmp .ge 31, 3) := by decide +kernel
theorem dX4_setSwaps_26 : decode cX4_setSwaps 26 = .ok (.aload_n 0, 1) := by decide +kernel
theorem dX4_setSwaps_27 : decode cX4_setSwaps 27 = .ok (.getfield 21, 3) := by decide +kernel
theorem dX4_setSwaps_30 : decode cX4_setSwaps 30 = .ok (.iload_n 1, 1) := by decide +kernel
theorem dX4_setSwaps_31 : decode cX4_setSwaps 31 = .ok (.bipush 6, 2) := by decide +kernel
theorem dX4_setSwaps_33 : decode cX4_setSwaps 33 = .ok (.imul, 1) := by decide +kernel
theorem dX4_setSwaps_34 : decode cX4_setSwaps 34 = .ok (.iload_n 2, 1) := by decide +kernel
theorem dX4_setSwaps_35 : decode cX4_setSwaps 35 = .ok (.iadd, 1) := by decide +kernel
theorem dX4_setSwaps_36 : decode cX4_setSwaps 36 = .ok (.aload_n 0, 1) := by decide +kernel
theorem dX4_setSwaps_37 : decode cX4_setSwaps 37 = .ok (.iload_n 1, 1) := by decide +kernel
theorem dX4_setSwaps_38 : decode cX4_setSwaps 38 = .ok (.iload_n 3, 1) := by decide +kernel
theorem dX4_setSwaps_39 : decode cX4_setSwaps 39 = .ok (.iload 4, 2) := by decide +kernel
theorem dX4_setSwaps_41 : decode cX4_setSwaps 41 = .ok (.invokevirtual 54, 3) := by decide +kernel
theorem dX4_setSwaps_44 : decode cX4_setSwaps 44 = .ok (.iastore, 1) := by decide +kernel
theorem dX4_setSwaps_45 : decode cX4_setSwaps 45 = .ok (.iinc 2 1, 3) := by decide +kernel
theorem dX4_setSwaps_48 : decode cX4_setSwaps 48 = .ok (.iinc 4 1, 3) := by decide +kernel
theorem dX4_setSwaps_51 : decode cX4_setSwaps 51 = .ok (.goto (-34), 3) := by decide +kernel
theorem dX4_setSwaps_54 : decode cX4_setSwaps 54 = .ok (.iinc 3 1, 3) := by decide +kernel
theorem dX4_setSwaps_57 : decode cX4_setSwaps 57 = .ok (.goto (-53), 3) := by decide +kernel
theorem dX4_setSwaps_60 : decode cX4_setSwaps 60 = .ok (.aload_n 0, 1) := by decide +kernel
theorem dX4_setSwaps_61 : decode cX4_setSwaps 61 = .ok (.iload_n 2, 1) := by decide +kernel
theorem dX4_setSwaps_62 : decode cX4_setSwaps 62 = .ok (.putfield 58, 3) := by decide +kernel
theorem dX4_setSwaps_65 : decode cX4_setSwaps 65 = .ok (.return_, 1) := by decide +kernel
set_option maxRecDepth 20000 in
theorem ggX4_rankWithSwapped_X4_groupAt : GoodIn wsX4_rankWithSwapped wsX4_groupAt := goodIn_ca (goodIn_r _ [8, 9, 20, 21, 22, 23, 24, 25, 26, 27, 28] (by decide +kernel) (by decide +kernel)) (goodIn_sub (fun _ h => List.mem_cons_of_mem _ (List.mem_append_right _ h)) (by decide +kernel))
set_option maxRecDepth 20000 in
theorem gX4_rankWithSwapped_X4_groupAt : GoodIn wsX4_rankWithSwapped (wsV RX4 61 RX4 yX4_groupAt wsX4_groupAt) := goodIn_app (goodIn_of _ (by decide +kernel)) ggX4_rankWithSwapped_X4_groupAt
set_option maxRecDepth 20000 in
theorem ggX4_rankWithSwapped_X4_only : GoodIn wsX4_rankWithSwapped wsX4_only := goodIn_r _ [12, 13, 14, 15, 16, 17, 18, 19] (by decide +kernel) (by decide +kernel)
set_option maxRecDepth 20000 in
theorem gX4_rankWithSwapped_X4_only : GoodIn wsX4_rankWithSwapped (va_wsS RX4 65 yX4_only wsX4_only) := goodIn_app (goodIn_of _ (by decide +kernel)) ggX4_rankWithSwapped_X4_only
theorem dX4_rankWithSwapped_0 : decode cX4_rankWithSwapped 0 = .ok (.aload_n 0, 1) := by decide +kernel
theorem dX4_rankWithSwapped_1 : decode cX4_rankWithSwapped 1 = .ok (.getfield 47, 3) := by decide +kernel
theorem dX4_rankWithSwapped_4 : decode cX4_rankWithSwapped 4 = .ok (.istore 4, 2) := by decide +kernel
theorem dX4_rankWithSwapped_6 : decode cX4_rankWithSwapped 6 = .ok (.iconst 0, 1) := by decide +kernel
theorem dX4_rankWithSwapped_7 : decode cX4_rankWithSwapped 7 = .ok (.istore 5, 2) := by decide +kernel
theorem dX4_rankWithSwapped_9 : decode cX4_rankWithSwapped 9 = .ok (.iload 5, 2) := by decide +kernel
theorem dX4_rankWithSwapped_11 : decode cX4_rankWithSwapped 11 = .ok (.aload_n 0, 1) := by decide +kernel
theorem dX4_rankWithSwapped_12 : decode cX4_rankWithSwapped 12 = .ok (.getfield 27, 3) := by decide +kernel
theorem dX4_rankWithSwapped_15 : decode cX4_rankWithSwapped 15 = .ok (.if_icmp .ge 59, 3) := by decide +kernel
theorem dX4_rankWithSwapped_18 : decode cX4_rankWithSwapped 18 = .ok (.aload_n 0, 1) := by decide +kernel
theorem dX4_rankWithSwapped_19 : decode cX4_rankWithSwapped 19 = .ok (.iload_n 1, 1) := by decide +kernel
theorem dX4_rankWithSwapped_20 : decode cX4_rankWithSwapped 20 = .ok (.iload 5, 2) := by decide +kernel
theorem dX4_rankWithSwapped_22 : decode cX4_rankWithSwapped 22 = .ok (.invokevirtual 61, 3) := by decide +kernel
theorem dX4_rankWithSwapped_25 : decode cX4_rankWithSwapped 25 = .ok (.istore 6, 2) := by decide +kernel
theorem dX4_rankWithSwapped_27 : decode cX4_rankWithSwapped 27 = .ok (.iload 6, 2) := by decide +kernel
theorem dX4_rankWithSwapped_29 : decode cX4_rankWithSwapped 29 = .ok (.iload_n 2, 1) := by decide +kernel
theorem dX4_rankWithSwapped_30 : decode cX4_rankWithSwapped 30 = .ok (.if_icmp .ne 7, 3) := by decide +kernel
theorem dX4_rankWithSwapped_33 : decode cX4_rankWithSwapped 33 = .ok (.iload_n 3, 1) := by decide +kernel
theorem dX4_rankWithSwapped_34 : decode cX4_rankWithSwapped 34 = .ok (.goto 15, 3) := by decide +kernel
theorem dX4_rankWithSwapped_37 : decode cX4_rankWithSwapped 37 = .ok (.iload 6, 2) := by decide +kernel
theorem dX4_rankWithSwapped_39 : decode cX4_rankWithSwapped 39 = .ok (.iload_n 3, 1) := by decide +kernel
theorem dX4_rankWithSwapped_40 : decode cX4_rankWithSwapped 40 = .ok (.if_icmp .ne 7, 3) := by decide +kernel
theorem dX4_rankWithSwapped_43 : decode cX4_rankWithSwapped 43 = .ok (.iload_n 2, 1) := by decide +kernel
theorem dX4_rankWithSwapped_44 : decode cX4_rankWithSwapped 44 = .ok (.goto 5, 3) := by decide +kernel
theorem dX4_rankWithSwapped_49 : decode cX4_rankWithSwapped 49 = .ok (.istore 7, 2) := by decide +kernel
theorem dX4_rankWithSwapped_51 : decode cX4_rankWithSwapped 51 = .ok (.iload 4, 2) := by decide +kernel
theorem dX4_rankWithSwapped_53 : decode cX4_rankWithSwapped 53 = .ok (.aload_n 0, 1) := by decide +kernel
theorem dX4_rankWithSwapped_54 : decode cX4_rankWithSwapped 54 = .ok (.getfield 18, 3) := by decide +kernel
theorem dX4_rankWithSwapped_57 : decode cX4_rankWithSwapped 57 = .ok (.iload 5, 2) := by decide +kernel
theorem dX4_rankWithSwapped_59 : decode cX4_rankWithSwapped 59 = .ok (.iconst 4, 1) := by decide +kernel
theorem dX4_rankWithSwapped_60 : decode cX4_rankWithSwapped 60 = .ok (.imul, 1) := by decide +kernel
theorem dX4_rankWithSwapped_61 : decode cX4_rankWithSwapped 61 = .ok (.iload 7, 2) := by decide +kernel
theorem dX4_rankWithSwapped_63 : decode cX4_rankWithSwapped 63 = .ok (.iadd, 1) := by decide +kernel
theorem dX4_rankWithSwapped_64 : decode cX4_rankWithSwapped 64 = .ok (.iaload, 1) := by decide +kernel
theorem dX4_rankWithSwapped_65 : decode cX4_rankWithSwapped 65 = .ok (.iand, 1) := by decide +kernel
theorem dX4_rankWithSwapped_66 : decode cX4_rankWithSwapped 66 = .ok (.istore 4, 2) := by decide +kernel
theorem dX4_rankWithSwapped_68 : decode cX4_rankWithSwapped 68 = .ok (.iinc 5 1, 3) := by decide +kernel
theorem dX4_rankWithSwapped_71 : decode cX4_rankWithSwapped 71 = .ok (.goto (-62), 3) := by decide +kernel
theorem dX4_rankWithSwapped_74 : decode cX4_rankWithSwapped 74 = .ok (.iload 4, 2) := by decide +kernel
theorem dX4_rankWithSwapped_76 : decode cX4_rankWithSwapped 76 = .ok (.invokestatic 65, 3) := by decide +kernel
theorem dX4_rankWithSwapped_79 : decode cX4_rankWithSwapped 79 = .ok (.ireturn, 1) := by decide +kernel
theorem dX4_groupAt_0 : decode cX4_groupAt 0 = .ok (.aload_n 0, 1) := by decide +kernel
theorem dX4_groupAt_1 : decode cX4_groupAt 1 = .ok (.getfield 9, 3) := by decide +kernel
theorem dX4_groupAt_4 : decode cX4_groupAt 4 = .ok (.iload_n 1, 1) := by decide +kernel
theorem dX4_groupAt_5 : decode cX4_groupAt 5 = .ok (.iconst 4, 1) := by decide +kernel
theorem dX4_groupAt_6 : decode cX4_groupAt 6 = .ok (.imul, 1) := by decide +kernel
theorem dX4_groupAt_7 : decode cX4_groupAt 7 = .ok (.iload_n 2, 1) := by decide +kernel
theorem dX4_groupAt_8 : decode cX4_groupAt 8 = .ok (.iadd, 1) := by decide +kernel
theorem dX4_groupAt_9 : decode cX4_groupAt 9 = .ok (.iaload, 1) := by decide +kernel
theorem dX4_groupAt_10 : decode cX4_groupAt 10 = .ok (.ireturn, 1) := by decide +kernel
set_option maxRecDepth 20000 in
theorem ggX4_only_J6_bitCount_0f7a4 : GoodIn wsX4_only wsJ6_bitCount_0f7a4 := goodIn_r _ [4, 5, 6, 7] (by decide +kernel) (by decide +kernel)
set_option maxRecDepth 20000 in
theorem gX4_only_J6_bitCount_0f7a4 : GoodIn wsX4_only (va_wsS RX4 69 yJ6_bitCount_0f7a4 wsJ6_bitCount_0f7a4) := goodIn_app (goodIn_of _ (by decide +kernel)) ggX4_only_J6_bitCount_0f7a4
theorem dX4_only_0 : decode cX4_only 0 = .ok (.iload_n 0, 1) := by decide +kernel
theorem dX4_only_1 : decode cX4_only 1 = .ok (.ifCond .ne 7, 3) := by decide +kernel
theorem dX4_only_8 : decode cX4_only 8 = .ok (.iload_n 0, 1) := by decide +kernel
theorem dX4_only_9 : decode cX4_only 9 = .ok (.iload_n 0, 1) := by decide +kernel
theorem dX4_only_10 : decode cX4_only 10 = .ok (.ineg, 1) := by decide +kernel
theorem dX4_only_11 : decode cX4_only 11 = .ok (.iand, 1) := by decide +kernel
theorem dX4_only_12 : decode cX4_only 12 = .ok (.iconst 1, 1) := by decide +kernel
theorem dX4_only_13 : decode cX4_only 13 = .ok (.isub, 1) := by decide +kernel
theorem dX4_only_14 : decode cX4_only 14 = .ok (.invokestatic 69, 3) := by decide +kernel
theorem dX4_only_17 : decode cX4_only 17 = .ok (.ireturn, 1) := by decide +kernel
set_option maxRecDepth 20000 in
theorem ggX5_init_X3_init : GoodIn wsX5_init wsX3_init := goodIn_r _ [12, 13, 2, 3, 14, 15, 16, 17, 18, 19, 20, 21, 22, 23, 24, 25, 26, 27, 28, 29, 30, 31] (by decide +kernel) (by decide +kernel)
set_option maxRecDepth 20000 in
theorem gX5_init_X3_init : GoodIn wsX5_init (wsX3_init) := ggX5_init_X3_init
theorem dX5_init_0 : decode cX5_init 0 = .ok (.aload_n 0, 1) := by decide +kernel
theorem dX5_init_1 : decode cX5_init 1 = .ok (.invokespecial 3, 3) := by decide +kernel
theorem dX5_init_4 : decode cX5_init 4 = .ok (.aload_n 0, 1) := by decide +kernel
theorem dX5_init_5 : decode cX5_init 5 = .ok (.new 9, 3) := by decide +kernel
theorem dX5_init_8 : decode cX5_init 8 = .ok (.dup, 1) := by decide +kernel
theorem dX5_init_9 : decode cX5_init 9 = .ok (.invokespecial 11, 3) := by decide +kernel
theorem dX5_init_12 : decode cX5_init 12 = .ok (.putfield 12, 3) := by decide +kernel
theorem dX5_init_15 : decode cX5_init 15 = .ok (.aload_n 0, 1) := by decide +kernel
theorem dX5_init_16 : decode cX5_init 16 = .ok (.iconst (-1), 1) := by decide +kernel
theorem dX5_init_17 : decode cX5_init 17 = .ok (.putfield 18, 3) := by decide +kernel
theorem dX5_init_20 : decode cX5_init 20 = .ok (.aload_n 0, 1) := by decide +kernel
theorem dX5_init_21 : decode cX5_init 21 = .ok (.aload_n 1, 1) := by decide +kernel
theorem dX5_init_22 : decode cX5_init 22 = .ok (.putfield 22, 3) := by decide +kernel
theorem dX5_init_25 : decode cX5_init 25 = .ok (.return_, 1) := by decide +kernel
set_option maxRecDepth 20000 in
theorem ggX6_init_X7_init : GoodIn wsX6_init wsX7_init := goodIn_r _ [17, 18, 2, 3, 4, 19, 6, 20, 21, 22, 23, 44, 45, 46, 47, 48, 49] (by decide +kernel) (by decide +kernel)
set_option maxRecDepth 20000 in
theorem gX6_init_X7_init : GoodIn wsX6_init (wsX7_init) := ggX6_init_X7_init
theorem dX6_init_0 : decode cX6_init 0 = .ok (.aload_n 0, 1) := by decide +kernel
theorem dX6_init_1 : decode cX6_init 1 = .ok (.invokespecial 3, 3) := by decide +kernel
theorem dX6_init_4 : decode cX6_init 4 = .ok (.aload_n 0, 1) := by decide +kernel
theorem dX6_init_5 : decode cX6_init 5 = .ok (.iconst 4, 1) := by decide +kernel
theorem dX6_init_6 : decode cX6_init 6 = .ok (.newarray .int, 2) := by decide +kernel
theorem dX6_init_8 : decode cX6_init 8 = .ok (.putfield 9, 3) := by decide +kernel
theorem dX6_init_11 : decode cX6_init 11 = .ok (.aload_n 0, 1) := by decide +kernel
theorem dX6_init_12 : decode cX6_init 12 = .ok (.bipush 96, 2) := by decide +kernel
theorem dX6_init_14 : decode cX6_init 14 = .ok (.newarray .long, 2) := by decide +kernel
theorem dX6_init_16 : decode cX6_init 16 = .ok (.putfield 15, 3) := by decide +kernel
theorem dX6_init_19 : decode cX6_init 19 = .ok (.aload_n 0, 1) := by decide +kernel
theorem dX6_init_20 : decode cX6_init 20 = .ok (.aload_n 1, 1) := by decide +kernel
theorem dX6_init_21 : decode cX6_init 21 = .ok (.getfield 19, 3) := by decide +kernel
theorem dX6_init_24 : decode cX6_init 24 = .ok (.putfield 25, 3) := by decide +kernel
theorem dX6_init_27 : decode cX6_init 27 = .ok (.aload_n 0, 1) := by decide +kernel
theorem dX6_init_28 : decode cX6_init 28 = .ok (.aload_n 1, 1) := by decide +kernel
theorem dX6_init_29 : decode cX6_init 29 = .ok (.getfield 26, 3) := by decide +kernel
theorem dX6_init_32 : decode cX6_init 32 = .ok (.putfield 30, 3) := by decide +kernel
theorem dX6_init_35 : decode cX6_init 35 = .ok (.aload_n 0, 1) := by decide +kernel
theorem dX6_init_36 : decode cX6_init 36 = .ok (.aload_n 2, 1) := by decide +kernel
theorem dX6_init_37 : decode cX6_init 37 = .ok (.putfield 31, 3) := by decide +kernel
theorem dX6_init_40 : decode cX6_init 40 = .ok (.aload_n 0, 1) := by decide +kernel
theorem dX6_init_41 : decode cX6_init 41 = .ok (.new 35, 3) := by decide +kernel
theorem dX6_init_44 : decode cX6_init 44 = .ok (.dup, 1) := by decide +kernel
theorem dX6_init_45 : decode cX6_init 45 = .ok (.aload_n 1, 1) := by decide +kernel
theorem dX6_init_46 : decode cX6_init 46 = .ok (.getfield 26, 3) := by decide +kernel
theorem dX6_init_49 : decode cX6_init 49 = .ok (.invokespecial 37, 3) := by decide +kernel
theorem dX6_init_52 : decode cX6_init 52 = .ok (.putfield 40, 3) := by decide +kernel
theorem dX6_init_55 : decode cX6_init 55 = .ok (.return_, 1) := by decide +kernel
theorem dX7_init_0 : decode cX7_init 0 = .ok (.aload_n 0, 1) := by decide +kernel
theorem dX7_init_1 : decode cX7_init 1 = .ok (.invokespecial 3, 3) := by decide +kernel
theorem dX7_init_4 : decode cX7_init 4 = .ok (.aload_n 0, 1) := by decide +kernel
theorem dX7_init_5 : decode cX7_init 5 = .ok (.iconst 4, 1) := by decide +kernel
theorem dX7_init_6 : decode cX7_init 6 = .ok (.newarray .int, 2) := by decide +kernel
theorem dX7_init_8 : decode cX7_init 8 = .ok (.putfield 9, 3) := by decide +kernel
theorem dX7_init_11 : decode cX7_init 11 = .ok (.aload_n 0, 1) := by decide +kernel
theorem dX7_init_12 : decode cX7_init 12 = .ok (.bipush 24, 2) := by decide +kernel
theorem dX7_init_14 : decode cX7_init 14 = .ok (.newarray .long, 2) := by decide +kernel
theorem dX7_init_16 : decode cX7_init 16 = .ok (.putfield 15, 3) := by decide +kernel
theorem dX7_init_19 : decode cX7_init 19 = .ok (.aload_n 0, 1) := by decide +kernel
theorem dX7_init_20 : decode cX7_init 20 = .ok (.bipush 64, 2) := by decide +kernel
theorem dX7_init_22 : decode cX7_init 22 = .ok (.newarray .int, 2) := by decide +kernel
theorem dX7_init_24 : decode cX7_init 24 = .ok (.putfield 19, 3) := by decide +kernel
theorem dX7_init_27 : decode cX7_init 27 = .ok (.aload_n 0, 1) := by decide +kernel
theorem dX7_init_28 : decode cX7_init 28 = .ok (.sipush 1040, 3) := by decide +kernel
theorem dX7_init_31 : decode cX7_init 31 = .ok (.newarray .long, 2) := by decide +kernel
theorem dX7_init_33 : decode cX7_init 33 = .ok (.putfield 22, 3) := by decide +kernel
theorem dX7_init_36 : decode cX7_init 36 = .ok (.aload_n 0, 1) := by decide +kernel
theorem dX7_init_37 : decode cX7_init 37 = .ok (.aload_n 1, 1) := by decide +kernel
theorem dX7_init_38 : decode cX7_init 38 = .ok (.putfield 25, 3) := by decide +kernel
theorem dX7_init_41 : decode cX7_init 41 = .ok (.return_, 1) := by decide +kernel
theorem dX8_init_0 : decode cX8_init 0 = .ok (.aload_n 0, 1) := by decide +kernel
theorem dX8_init_1 : decode cX8_init 1 = .ok (.invokespecial 3, 3) := by decide +kernel
theorem dX8_init_4 : decode cX8_init 4 = .ok (.aload_n 0, 1) := by decide +kernel
theorem dX8_init_5 : decode cX8_init 5 = .ok (.iconst 4, 1) := by decide +kernel
theorem dX8_init_6 : decode cX8_init 6 = .ok (.newarray .int, 2) := by decide +kernel
theorem dX8_init_8 : decode cX8_init 8 = .ok (.putfield 9, 3) := by decide +kernel
theorem dX8_init_11 : decode cX8_init 11 = .ok (.aload_n 0, 1) := by decide +kernel
theorem dX8_init_12 : decode cX8_init 12 = .ok (.iconst 4, 1) := by decide +kernel
theorem dX8_init_13 : decode cX8_init 13 = .ok (.newarray .int, 2) := by decide +kernel
theorem dX8_init_15 : decode cX8_init 15 = .ok (.putfield 15, 3) := by decide +kernel
theorem dX8_init_18 : decode cX8_init 18 = .ok (.aload_n 0, 1) := by decide +kernel
theorem dX8_init_19 : decode cX8_init 19 = .ok (.bipush 12, 2) := by decide +kernel
theorem dX8_init_21 : decode cX8_init 21 = .ok (.newarray .int, 2) := by decide +kernel
theorem dX8_init_23 : decode cX8_init 23 = .ok (.putfield 18, 3) := by decide +kernel
theorem dX8_init_26 : decode cX8_init 26 = .ok (.aload_n 0, 1) := by decide +kernel
theorem dX8_init_27 : decode cX8_init 27 = .ok (.bipush 12, 2) := by decide +kernel
theorem dX8_init_29 : decode cX8_init 29 = .ok (.newarray .int, 2) := by decide +kernel
theorem dX8_init_31 : decode cX8_init 31 = .ok (.putfield 21, 3) := by decide +kernel
theorem dX8_init_34 : decode cX8_init 34 = .ok (.aload_n 0, 1) := by decide +kernel
theorem dX8_init_35 : decode cX8_init 35 = .ok (.iconst 4, 1) := by decide +kernel
theorem dX8_init_36 : decode cX8_init 36 = .ok (.newarray .int, 2) := by decide +kernel
theorem dX8_init_38 : decode cX8_init 38 = .ok (.putfield 24, 3) := by decide +kernel
theorem dX8_init_41 : decode cX8_init 41 = .ok (.aload_n 0, 1) := by decide +kernel
theorem dX8_init_42 : decode cX8_init 42 = .ok (.aload_n 1, 1) := by decide +kernel
theorem dX8_init_43 : decode cX8_init 43 = .ok (.putfield 27, 3) := by decide +kernel
theorem dX8_init_46 : decode cX8_init 46 = .ok (.aload_n 0, 1) := by decide +kernel
theorem dX8_init_47 : decode cX8_init 47 = .ok (.aload_n 2, 1) := by decide +kernel
theorem dX8_init_48 : decode cX8_init 48 = .ok (.putfield 31, 3) := by decide +kernel
theorem dX8_init_51 : decode cX8_init 51 = .ok (.return_, 1) := by decide +kernel
set_option maxRecDepth 20000 in
theorem ggX8_putInTurn_X8_empty : GoodIn wsX8_putInTurn wsX8_empty := goodIn_r _ [11, 12, 13, 14, 15, 16, 17, 18, 19, 20, 21, 22, 23, 24, 25] (by decide +kernel) (by decide +kernel)
set_option maxRecDepth 20000 in
theorem gX8_putInTurn_X8_empty : GoodIn wsX8_putInTurn (wsV RX8 44 RX8 yX8_empty wsX8_empty) := goodIn_app (goodIn_of _ (by decide +kernel)) ggX8_putInTurn_X8_empty
theorem dX8_putInTurn_0 : decode cX8_putInTurn 0 = .ok (.getstatic 35, 3) := by decide +kernel
theorem dX8_putInTurn_3 : decode cX8_putInTurn 3 = .ok (.iconst 0, 1) := by decide +kernel
theorem dX8_putInTurn_4 : decode cX8_putInTurn 4 = .ok (.aload_n 0, 1) := by decide +kernel
theorem dX8_putInTurn_5 : decode cX8_putInTurn 5 = .ok (.getfield 9, 3) := by decide +kernel
theorem dX8_putInTurn_8 : decode cX8_putInTurn 8 = .ok (.iconst 0, 1) := by decide +kernel
theorem dX8_putInTurn_9 : decode cX8_putInTurn 9 = .ok (.iconst 4, 1) := by decide +kernel
theorem dX8_putInTurn_10 : decode cX8_putInTurn 10 = .ok (.invokestatic 38, 3) := by decide +kernel
theorem dX8_putInTurn_13 : decode cX8_putInTurn 13 = .ok (.getstatic 35, 3) := by decide +kernel
theorem dX8_putInTurn_16 : decode cX8_putInTurn 16 = .ok (.iconst 0, 1) := by decide +kernel
theorem dX8_putInTurn_17 : decode cX8_putInTurn 17 = .ok (.aload_n 0, 1) := by decide +kernel
theorem dX8_putInTurn_18 : decode cX8_putInTurn 18 = .ok (.getfield 15, 3) := by decide +kernel
theorem dX8_putInTurn_21 : decode cX8_putInTurn 21 = .ok (.iconst 0, 1) := by decide +kernel
theorem dX8_putInTurn_22 : decode cX8_putInTurn 22 = .ok (.iconst 4, 1) := by decide +kernel
theorem dX8_putInTurn_23 : decode cX8_putInTurn 23 = .ok (.invokestatic 38, 3) := by decide +kernel
theorem dX8_putInTurn_26 : decode cX8_putInTurn 26 = .ok (.aload_n 0, 1) := by decide +kernel
theorem dX8_putInTurn_27 : decode cX8_putInTurn 27 = .ok (.invokevirtual 44, 3) := by decide +kernel
theorem dX8_putInTurn_30 : decode cX8_putInTurn 30 = .ok (.return_, 1) := by decide +kernel
set_option maxRecDepth 20000 in
theorem ggX8_empty_J7_fill_53178 : GoodIn wsX8_empty wsJ7_fill_53178 := goodIn_r _ [6] (by decide +kernel) (by decide +kernel)
set_option maxRecDepth 20000 in
theorem gX8_empty_J7_fill_53178 : GoodIn wsX8_empty (va_wsS RX8 51 yJ7_fill_53178 wsJ7_fill_53178) := goodIn_app (goodIn_of _ (by decide +kernel)) ggX8_empty_J7_fill_53178
theorem dX8_empty_0 : decode cX8_empty 0 = .ok (.aload_n 0, 1) := by decide +kernel
theorem dX8_empty_1 : decode cX8_empty 1 = .ok (.iconst 0, 1) := by decide +kernel
theorem dX8_empty_2 : decode cX8_empty 2 = .ok (.putfield 47, 3) := by decide +kernel
theorem dX8_empty_5 : decode cX8_empty 5 = .ok (.aload_n 0, 1) := by decide +kernel
theorem dX8_empty_6 : decode cX8_empty 6 = .ok (.getfield 18, 3) := by decide +kernel
theorem dX8_empty_9 : decode cX8_empty 9 = .ok (.iconst (-1), 1) := by decide +kernel
theorem dX8_empty_10 : decode cX8_empty 10 = .ok (.invokestatic 51, 3) := by decide +kernel
theorem dX8_empty_13 : decode cX8_empty 13 = .ok (.return_, 1) := by decide +kernel
theorem dX9_init_0 : decode cX9_init 0 = .ok (.aload_n 0, 1) := by decide +kernel
theorem dX9_init_1 : decode cX9_init 1 = .ok (.invokespecial 3, 3) := by decide +kernel
theorem dX9_init_4 : decode cX9_init 4 = .ok (.aload_n 0, 1) := by decide +kernel
theorem dX9_init_5 : decode cX9_init 5 = .ok (.iconst 1, 1) := by decide +kernel
theorem dX9_init_6 : decode cX9_init 6 = .ok (.newarray .int, 2) := by decide +kernel
theorem dX9_init_8 : decode cX9_init 8 = .ok (.putfield 9, 3) := by decide +kernel
theorem dX9_init_11 : decode cX9_init 11 = .ok (.aload_n 0, 1) := by decide +kernel
theorem dX9_init_12 : decode cX9_init 12 = .ok (.iconst 1, 1) := by decide +kernel
theorem dX9_init_13 : decode cX9_init 13 = .ok (.newarray .int, 2) := by decide +kernel
theorem dX9_init_15 : decode cX9_init 15 = .ok (.putfield 15, 3) := by decide +kernel
theorem dX9_init_18 : decode cX9_init 18 = .ok (.aload_n 0, 1) := by decide +kernel
theorem dX9_init_19 : decode cX9_init 19 = .ok (.iconst (-1), 1) := by decide +kernel
theorem dX9_init_20 : decode cX9_init 20 = .ok (.putfield 18, 3) := by decide +kernel
theorem dX9_init_23 : decode cX9_init 23 = .ok (.aload_n 0, 1) := by decide +kernel
theorem dX9_init_24 : decode cX9_init 24 = .ok (.aload_n 1, 1) := by decide +kernel
theorem dX9_init_25 : decode cX9_init 25 = .ok (.putfield 22, 3) := by decide +kernel
theorem dX9_init_28 : decode cX9_init 28 = .ok (.aload_n 0, 1) := by decide +kernel
theorem dX9_init_29 : decode cX9_init 29 = .ok (.aload_n 1, 1) := by decide +kernel
theorem dX9_init_30 : decode cX9_init 30 = .ok (.getfield 26, 3) := by decide +kernel
theorem dX9_init_33 : decode cX9_init 33 = .ok (.putfield 32, 3) := by decide +kernel
theorem dX9_init_36 : decode cX9_init 36 = .ok (.return_, 1) := by decide +kernel
theorem dX9_forget_0 : decode cX9_forget 0 = .ok (.aload_n 0, 1) := by decide +kernel
theorem dX9_forget_1 : decode cX9_forget 1 = .ok (.iconst (-1), 1) := by decide +kernel
theorem dX9_forget_2 : decode cX9_forget 2 = .ok (.putfield 18, 3) := by decide +kernel
theorem dX9_forget_5 : decode cX9_forget 5 = .ok (.aload_n 0, 1) := by decide +kernel
theorem dX9_forget_6 : decode cX9_forget 6 = .ok (.iconst 0, 1) := by decide +kernel
theorem dX9_forget_7 : decode cX9_forget 7 = .ok (.putfield 33, 3) := by decide +kernel
theorem dX9_forget_10 : decode cX9_forget 10 = .ok (.return_, 1) := by decide +kernel
theorem dX10_init_0 : decode cX10_init 0 = .ok (.aload_n 0, 1) := by decide +kernel
theorem dX10_init_1 : decode cX10_init 1 = .ok (.invokespecial 3, 3) := by decide +kernel
theorem dX10_init_4 : decode cX10_init 4 = .ok (.aload_n 0, 1) := by decide +kernel
theorem dX10_init_5 : decode cX10_init 5 = .ok (.sipush 601, 3) := by decide +kernel
theorem dX10_init_8 : decode cX10_init 8 = .ok (.newarray .int, 2) := by decide +kernel
theorem dX10_init_10 : decode cX10_init 10 = .ok (.putfield 11, 3) := by decide +kernel
theorem dX10_init_13 : decode cX10_init 13 = .ok (.aload_n 0, 1) := by decide +kernel
theorem dX10_init_14 : decode cX10_init 14 = .ok (.iconst 5, 1) := by decide +kernel
theorem dX10_init_15 : decode cX10_init 15 = .ok (.newarray .int, 2) := by decide +kernel
theorem dX10_init_17 : decode cX10_init 17 = .ok (.putfield 15, 3) := by decide +kernel
theorem dX10_init_20 : decode cX10_init 20 = .ok (.aload_n 0, 1) := by decide +kernel
theorem dX10_init_21 : decode cX10_init 21 = .ok (.iconst 4, 1) := by decide +kernel
theorem dX10_init_22 : decode cX10_init 22 = .ok (.newarray .int, 2) := by decide +kernel
theorem dX10_init_24 : decode cX10_init 24 = .ok (.putfield 18, 3) := by decide +kernel
theorem dX10_init_27 : decode cX10_init 27 = .ok (.aload_n 0, 1) := by decide +kernel
theorem dX10_init_28 : decode cX10_init 28 = .ok (.aload_n 1, 1) := by decide +kernel
theorem dX10_init_29 : decode cX10_init 29 = .ok (.putfield 21, 3) := by decide +kernel
theorem dX10_init_32 : decode cX10_init 32 = .ok (.return_, 1) := by decide +kernel
set_option maxRecDepth 20000 in
theorem ggX11_init_X3_init : GoodIn wsX11_init wsX3_init := goodIn_r _ [54, 55, 2, 3, 4, 56, 57, 58, 59, 60, 61, 287, 288, 289, 290, 291, 292, 293, 294, 295, 296, 297] (by decide +kernel) (by decide +kernel)
set_option maxRecDepth 20000 in
theorem gX11_init_X3_init : GoodIn wsX11_init (wsX3_init) := ggX11_init_X3_init
set_option maxRecDepth 20000 in
theorem ggX11_init_X5_init : GoodIn wsX11_init wsX5_init := goodIn_r _ [64, 65, 2, 3, 66, 7, 8, 67, 68, 69, 70, 53, 54, 55, 4, 56, 57, 58, 59, 60, 61, 287, 288, 289, 290, 291, 292, 293, 294, 295, 296, 297, 298, 299, 300, 301, 302, 303, 304, 305, 306] (by decide +kernel) (by decide +kernel)
set_option maxRecDepth 20000 in
theorem gX11_init_X5_init : GoodIn wsX11_init (wsX5_init) := ggX11_init_X5_init
set_option maxRecDepth 20000 in
theorem ggX11_init_X4_init : GoodIn wsX11_init wsX4_init := goodIn_r _ [72, 73, 2, 3, 4, 74, 75, 76, 77, 78, 307, 308, 309, 310, 311, 312, 313, 314, 315] (by decide +kernel) (by decide +kernel)
set_option maxRecDepth 20000 in
theorem gX11_init_X4_init_n31 : GoodIn wsX11_init (wsX4_init) := ggX11_init_X4_init
set_option maxRecDepth 20000 in
theorem ggX11_init_X2_init : GoodIn wsX11_init wsX2_init := goodIn_r _ [81, 82, 2, 3, 4, 83, 84, 85, 86, 87, 88, 89, 90, 316, 317, 318, 319, 320, 321, 322, 323, 324, 325] (by decide +kernel) (by decide +kernel)
set_option maxRecDepth 20000 in
theorem gX11_init_X2_init : GoodIn wsX11_init (wsX2_init) := ggX11_init_X2_init
set_option maxRecDepth 20000 in
theorem ggX11_init_X8_init : GoodIn wsX11_init wsX8_init := goodIn_r _ [93, 94, 2, 3, 4, 95, 96, 97, 98, 99, 100, 101, 326, 327, 328, 329, 330, 331, 332, 333] (by decide +kernel) (by decide +kernel)
set_option maxRecDepth 20000 in
theorem gX11_init_X8_init : GoodIn wsX11_init (wsX8_init) := ggX11_init_X8_init
set_option maxRecDepth 20000 in
theorem ggX11_init_X10_init : GoodIn wsX11_init wsX10_init := goodIn_r _ [104, 105, 2, 3, 4, 106, 107, 108, 109, 334, 335, 336, 337, 338] (by decide +kernel) (by decide +kernel)
set_option maxRecDepth 20000 in
theorem gX11_init_X10_init : GoodIn wsX11_init (wsX10_init) := ggX11_init_X10_init
set_option maxRecDepth 20000 in
theorem ggX11_init_X6_init : GoodIn wsX11_init wsX6_init := goodIn_r _ [112, 113, 2, 3, 4, 114, 115, 116, 117, 118, 119, 120, 121, 122, 123, 124, 125, 126, 127, 128, 129, 130, 131, 132, 339, 340, 341, 342, 343, 344, 345, 346, 347, 348, 316, 317, 318, 319, 320, 321, 322, 323, 324, 325, 368, 369, 370, 371, 372, 373] (by decide +kernel) (by decide +kernel)
set_option maxRecDepth 20000 in
theorem gX11_init_X6_init : GoodIn wsX11_init (wsX6_init) := ggX11_init_X6_init
set_option maxRecDepth 20000 in
theorem ggX11_init_X1_init : GoodIn wsX11_init wsX1_init := goodIn_r _ [134, 135, 2, 3, 115, 136, 137, 349, 350, 351, 352] (by decide +kernel) (by decide +kernel)
set_option maxRecDepth 20000 in
theorem gX11_init_X1_init_n85 : GoodIn wsX11_init (wsX1_init) := ggX11_init_X1_init
set_option maxRecDepth 20000 in
theorem ggX11_init_X0_init : GoodIn wsX11_init wsX0_init := goodIn_r _ [140, 141, 2, 3, 4, 142, 143, 144, 145, 353, 354, 355, 356, 357, 316, 317, 318, 319, 320, 321, 322, 323, 324, 325] (by decide +kernel) (by decide +kernel)
set_option maxRecDepth 20000 in
theorem gX11_init_X0_init : GoodIn wsX11_init (wsX0_init) := ggX11_init_X0_init
set_option maxRecDepth 20000 in
theorem ggX11_init_X9_init : GoodIn wsX11_init wsX9_init := goodIn_r _ [148, 149, 2, 3, 4, 150, 151, 152, 153, 154, 358, 359, 360, 361, 362, 363, 364, 365, 366, 367, 316, 317, 318, 319, 320, 321, 322, 323, 324, 325] (by decide +kernel) (by decide +kernel)
set_option maxRecDepth 20000 in
theorem gX11_init_X9_init : GoodIn wsX11_init (wsX9_init) := ggX11_init_X9_init
set_option maxRecDepth 20000 in
theorem ggX11_init_X11_beginAnew : GoodIn wsX11_init wsX11_beginAnew := goodIn_ca (goodIn_r _ [159, 17, 9, 21, 25, 29, 30, 37, 45, 49, 50, 51, 160, 161, 162, 16, 163, 164, 165, 76, 78, 166, 167, 168, 169, 170, 171, 172, 173, 174, 175, 176, 177, 74, 75, 178, 179, 180, 181, 77, 182, 183, 184, 185, 186, 187, 188, 189, 190, 191, 192, 193, 194, 195, 196, 197, 198, 199, 200, 201, 202, 203, 20, 204, 205, 89, 83, 90, 84, 4, 85, 206, 207, 208, 209, 210, 211, 212, 213, 214, 215, 216, 217, 218, 88, 219, 220, 221, 222, 223, 224, 225, 226, 227, 228, 229, 230, 231, 232, 233, 234, 235, 236, 237, 86, 238, 239, 240, 241, 242, 243, 244, 24, 245, 95, 246, 247, 248, 249, 96, 250, 251, 252, 253, 254, 97, 255, 256, 257, 258, 48, 259, 152, 260, 261, 262, 263, 158, 264, 265, 266, 267, 268, 38, 269, 270, 271, 272, 273, 274, 275, 276, 277, 278, 279, 280, 281, 282, 283, 284, 285, 286, 287, 288, 289, 290, 291, 292, 293, 294, 295, 296, 297, 334, 335, 336, 337, 338, 349, 350, 351, 352, 353, 354, 355, 356, 357, 307, 308, 309, 310, 311, 312, 313, 314, 315, 316, 317, 318, 319, 320, 321, 322, 323, 324, 325, 374, 375, 376, 377, 378, 379, 326, 327, 328, 329, 330, 331, 332, 333, 358, 359, 360, 361, 362, 363, 364, 365, 366, 367] (by decide +kernel) (by decide +kernel)) (goodIn_sub (fun _ h => List.mem_cons_of_mem _ (List.mem_append_right _ h)) (by decide +kernel))
set_option maxRecDepth 20000 in
theorem gX11_init_X11_beginAnew : GoodIn wsX11_init (wsV RX11 111 RX11 yX11_beginAnew wsX11_beginAnew) := goodIn_app (goodIn_of _ (by decide +kernel)) ggX11_init_X11_beginAnew
theorem dX11_init_0 : decode cX11_init 0 = .ok (.aload_n 0, 1) := by decide +kernel
theorem dX11_init_1 : decode cX11_init 1 = .ok (.invokespecial 1, 3) := by decide +kernel
theorem dX11_init_4 : decode cX11_init 4 = .ok (.aload_n 0, 1) := by decide +kernel
theorem dX11_init_5 : decode cX11_init 5 = .ok (.sipush 400, 3) := by decide +kernel
theorem dX11_init_8 : decode cX11_init 8 = .ok (.newarray .int, 2) := by decide +kernel
theorem dX11_init_10 : decode cX11_init 10 = .ok (.putfield 9, 3) := by decide +kernel
theorem dX11_init_13 : decode cX11_init 13 = .ok (.aload_n 0, 1) := by decide +kernel
theorem dX11_init_14 : decode cX11_init 14 = .ok (.new 13, 3) := by decide +kernel
theorem dX11_init_17 : decode cX11_init 17 = .ok (.dup, 1) := by decide +kernel
theorem dX11_init_18 : decode cX11_init 18 = .ok (.invokespecial 15, 3) := by decide +kernel
theorem dX11_init_21 : decode cX11_init 21 = .ok (.putfield 16, 3) := by decide +kernel
theorem dX11_init_24 : decode cX11_init 24 = .ok (.aload_n 0, 1) := by decide +kernel
theorem dX11_init_25 : decode cX11_init 25 = .ok (.new 20, 3) := by decide +kernel
theorem dX11_init_28 : decode cX11_init 28 = .ok (.dup, 1) := by decide +kernel
theorem dX11_init_29 : decode cX11_init 29 = .ok (.aload_n 0, 1) := by decide +kernel
theorem dX11_init_30 : decode cX11_init 30 = .ok (.getfield 9, 3) := by decide +kernel
theorem dX11_init_33 : decode cX11_init 33 = .ok (.invokespecial 22, 3) := by decide +kernel
theorem dX11_init_36 : decode cX11_init 36 = .ok (.putfield 25, 3) := by decide +kernel
theorem dX11_init_39 : decode cX11_init 39 = .ok (.aload_n 0, 1) := by decide +kernel
theorem dX11_init_40 : decode cX11_init 40 = .ok (.new 29, 3) := by decide +kernel
theorem dX11_init_43 : decode cX11_init 43 = .ok (.dup, 1) := by decide +kernel
theorem dX11_init_44 : decode cX11_init 44 = .ok (.invokespecial 31, 3) := by decide +kernel
theorem dX11_init_47 : decode cX11_init 47 = .ok (.putfield 32, 3) := by decide +kernel
theorem dX11_init_50 : decode cX11_init 50 = .ok (.aload_n 0, 1) := by decide +kernel
theorem dX11_init_51 : decode cX11_init 51 = .ok (.new 36, 3) := by decide +kernel
theorem dX11_init_54 : decode cX11_init 54 = .ok (.dup, 1) := by decide +kernel
theorem dX11_init_55 : decode cX11_init 55 = .ok (.aload_n 0, 1) := by decide +kernel
theorem dX11_init_56 : decode cX11_init 56 = .ok (.getfield 16, 3) := by decide +kernel
theorem dX11_init_59 : decode cX11_init 59 = .ok (.aload_n 0, 1) := by decide +kernel
theorem dX11_init_60 : decode cX11_init 60 = .ok (.getfield 32, 3) := by decide +kernel
theorem dX11_init_63 : decode cX11_init 63 = .ok (.invokespecial 38, 3) := by decide +kernel
theorem dX11_init_66 : decode cX11_init 66 = .ok (.putfield 41, 3) := by decide +kernel
theorem dX11_init_69 : decode cX11_init 69 = .ok (.aload_n 0, 1) := by decide +kernel
theorem dX11_init_70 : decode cX11_init 70 = .ok (.new 45, 3) := by decide +kernel
theorem dX11_init_73 : decode cX11_init 73 = .ok (.dup, 1) := by decide +kernel
theorem dX11_init_74 : decode cX11_init 74 = .ok (.aload_n 0, 1) := by decide +kernel
theorem dX11_init_75 : decode cX11_init 75 = .ok (.getfield 16, 3) := by decide +kernel
theorem dX11_init_78 : decode cX11_init 78 = .ok (.aload_n 0, 1) := by decide +kernel
theorem dX11_init_79 : decode cX11_init 79 = .ok (.getfield 32, 3) := by decide +kernel
theorem dX11_init_82 : decode cX11_init 82 = .ok (.invokespecial 47, 3) := by decide +kernel
theorem dX11_init_85 : decode cX11_init 85 = .ok (.putfield 48, 3) := by decide +kernel
theorem dX11_init_88 : decode cX11_init 88 = .ok (.aload_n 0, 1) := by decide +kernel
theorem dX11_init_89 : decode cX11_init 89 = .ok (.new 52, 3) := by decide +kernel
theorem dX11_init_92 : decode cX11_init 92 = .ok (.dup, 1) := by decide +kernel
theorem dX11_init_93 : decode cX11_init 93 = .ok (.aload_n 0, 1) := by decide +kernel
theorem dX11_init_94 : decode cX11_init 94 = .ok (.getfield 41, 3) := by decide +kernel
theorem dX11_init_97 : decode cX11_init 97 = .ok (.invokespecial 54, 3) := by decide +kernel
theorem dX11_init_100 : decode cX11_init 100 = .ok (.putfield 57, 3) := by decide +kernel
theorem dX11_init_103 : decode cX11_init 103 = .ok (.aload_n 0, 1) := by decide +kernel
theorem dX11_init_104 : decode cX11_init 104 = .ok (.new 52, 3) := by decide +kernel
theorem dX11_init_107 : decode cX11_init 107 = .ok (.dup, 1) := by decide +kernel
theorem dX11_init_108 : decode cX11_init 108 = .ok (.aload_n 0, 1) := by decide +kernel
theorem dX11_init_109 : decode cX11_init 109 = .ok (.getfield 41, 3) := by decide +kernel
theorem dX11_init_112 : decode cX11_init 112 = .ok (.invokespecial 54, 3) := by decide +kernel
theorem dX11_init_115 : decode cX11_init 115 = .ok (.putfield 61, 3) := by decide +kernel
theorem dX11_init_118 : decode cX11_init 118 = .ok (.aload_n 0, 1) := by decide +kernel
theorem dX11_init_119 : decode cX11_init 119 = .ok (.new 52, 3) := by decide +kernel
theorem dX11_init_122 : decode cX11_init 122 = .ok (.dup, 1) := by decide +kernel
theorem dX11_init_123 : decode cX11_init 123 = .ok (.aload_n 0, 1) := by decide +kernel
theorem dX11_init_124 : decode cX11_init 124 = .ok (.getfield 41, 3) := by decide +kernel
theorem dX11_init_127 : decode cX11_init 127 = .ok (.invokespecial 54, 3) := by decide +kernel
theorem dX11_init_130 : decode cX11_init 130 = .ok (.putfield 64, 3) := by decide +kernel
theorem dX11_init_133 : decode cX11_init 133 = .ok (.aload_n 0, 1) := by decide +kernel
theorem dX11_init_134 : decode cX11_init 134 = .ok (.new 67, 3) := by decide +kernel
theorem dX11_init_137 : decode cX11_init 137 = .ok (.dup, 1) := by decide +kernel
theorem dX11_init_138 : decode cX11_init 138 = .ok (.aload_n 0, 1) := by decide +kernel
theorem dX11_init_139 : decode cX11_init 139 = .ok (.getfield 41, 3) := by decide +kernel
theorem dX11_init_142 : decode cX11_init 142 = .ok (.aload_n 0, 1) := by decide +kernel
theorem dX11_init_143 : decode cX11_init 143 = .ok (.getfield 48, 3) := by decide +kernel
theorem dX11_init_146 : decode cX11_init 146 = .ok (.invokespecial 69, 3) := by decide +kernel
theorem dX11_init_149 : decode cX11_init 149 = .ok (.putfield 72, 3) := by decide +kernel
theorem dX11_init_152 : decode cX11_init 152 = .ok (.aload_n 0, 1) := by decide +kernel
theorem dX11_init_153 : decode cX11_init 153 = .ok (.iconst 3, 1) := by decide +kernel
theorem dX11_init_154 : decode cX11_init 154 = .ok (.anewarray 76, 3) := by decide +kernel
theorem dX11_init_157 : decode cX11_init 157 = .ok (.putfield 78, 3) := by decide +kernel
theorem dX11_init_160 : decode cX11_init 160 = .ok (.aload_n 0, 1) := by decide +kernel
theorem dX11_init_161 : decode cX11_init 161 = .ok (.iconst 3, 1) := by decide +kernel
theorem dX11_init_162 : decode cX11_init 162 = .ok (.anewarray 76, 3) := by decide +kernel
theorem dX11_init_165 : decode cX11_init 165 = .ok (.putfield 82, 3) := by decide +kernel
theorem dX11_init_168 : decode cX11_init 168 = .ok (.aload_n 0, 1) := by decide +kernel
theorem dX11_init_169 : decode cX11_init 169 = .ok (.new 76, 3) := by decide +kernel
theorem dX11_init_172 : decode cX11_init 172 = .ok (.dup, 1) := by decide +kernel
theorem dX11_init_173 : decode cX11_init 173 = .ok (.invokespecial 85, 3) := by decide +kernel
theorem dX11_init_176 : decode cX11_init 176 = .ok (.putfield 86, 3) := by decide +kernel
theorem dX11_init_179 : decode cX11_init 179 = .ok (.aload_n 0, 1) := by decide +kernel
theorem dX11_init_180 : decode cX11_init 180 = .ok (.new 90, 3) := by decide +kernel
theorem dX11_init_183 : decode cX11_init 183 = .ok (.dup, 1) := by decide +kernel
theorem dX11_init_184 : decode cX11_init 184 = .ok (.aload_n 0, 1) := by decide +kernel
theorem dX11_init_185 : decode cX11_init 185 = .ok (.getfield 41, 3) := by decide +kernel
theorem dX11_init_188 : decode cX11_init 188 = .ok (.invokespecial 92, 3) := by decide +kernel
theorem dX11_init_191 : decode cX11_init 191 = .ok (.putfield 93, 3) := by decide +kernel
theorem dX11_init_194 : decode cX11_init 194 = .ok (.aload_n 0, 1) := by decide +kernel
theorem dX11_init_195 : decode cX11_init 195 = .ok (.new 97, 3) := by decide +kernel
theorem dX11_init_198 : decode cX11_init 198 = .ok (.dup, 1) := by decide +kernel
theorem dX11_init_199 : decode cX11_init 199 = .ok (.aload_n 0, 1) := by decide +kernel
theorem dX11_init_200 : decode cX11_init 200 = .ok (.getfield 41, 3) := by decide +kernel
theorem dX11_init_203 : decode cX11_init 203 = .ok (.invokespecial 99, 3) := by decide +kernel
theorem dX11_init_206 : decode cX11_init 206 = .ok (.putfield 100, 3) := by decide +kernel
theorem dX11_init_209 : decode cX11_init 209 = .ok (.aload_n 0, 1) := by decide +kernel
theorem dX11_init_210 : decode cX11_init 210 = .ok (.bipush (-3), 2) := by decide +kernel
theorem dX11_init_212 : decode cX11_init 212 = .ok (.putfield 104, 3) := by decide +kernel
theorem dX11_init_215 : decode cX11_init 215 = .ok (.aload_n 0, 1) := by decide +kernel
theorem dX11_init_216 : decode cX11_init 216 = .ok (.bipush (-3), 2) := by decide +kernel
theorem dX11_init_218 : decode cX11_init 218 = .ok (.putfield 108, 3) := by decide +kernel
theorem dX11_init_221 : decode cX11_init 221 = .ok (.iconst 0, 1) := by decide +kernel
theorem dX11_init_222 : decode cX11_init 222 = .ok (.istore_n 1, 1) := by decide +kernel
theorem dX11_init_223 : decode cX11_init 223 = .ok (.iload_n 1, 1) := by decide +kernel
theorem dX11_init_224 : decode cX11_init 224 = .ok (.iconst 3, 1) := by decide +kernel
theorem dX11_init_225 : decode cX11_init 225 = .ok (.if_icmp .ge 35, 3) := by decide +kernel
theorem dX11_init_228 : decode cX11_init 228 = .ok (.aload_n 0, 1) := by decide +kernel
theorem dX11_init_229 : decode cX11_init 229 = .ok (.getfield 78, 3) := by decide +kernel
theorem dX11_init_232 : decode cX11_init 232 = .ok (.iload_n 1, 1) := by decide +kernel
theorem dX11_init_233 : decode cX11_init 233 = .ok (.new 76, 3) := by decide +kernel
theorem dX11_init_236 : decode cX11_init 236 = .ok (.dup, 1) := by decide +kernel
theorem dX11_init_237 : decode cX11_init 237 = .ok (.invokespecial 85, 3) := by decide +kernel
theorem dX11_init_240 : decode cX11_init 240 = .ok (.aastore, 1) := by decide +kernel
theorem dX11_init_241 : decode cX11_init 241 = .ok (.aload_n 0, 1) := by decide +kernel
theorem dX11_init_242 : decode cX11_init 242 = .ok (.getfield 82, 3) := by decide +kernel
theorem dX11_init_245 : decode cX11_init 245 = .ok (.iload_n 1, 1) := by decide +kernel
theorem dX11_init_246 : decode cX11_init 246 = .ok (.new 76, 3) := by decide +kernel
theorem dX11_init_249 : decode cX11_init 249 = .ok (.dup, 1) := by decide +kernel
theorem dX11_init_250 : decode cX11_init 250 = .ok (.invokespecial 85, 3) := by decide +kernel
theorem dX11_init_253 : decode cX11_init 253 = .ok (.aastore, 1) := by decide +kernel
theorem dX11_init_254 : decode cX11_init 254 = .ok (.iinc 1 1, 3) := by decide +kernel
theorem dX11_init_257 : decode cX11_init 257 = .ok (.goto (-34), 3) := by decide +kernel
theorem dX11_init_260 : decode cX11_init 260 = .ok (.aload_n 0, 1) := by decide +kernel
theorem dX11_init_261 : decode cX11_init 261 = .ok (.invokevirtual 111, 3) := by decide +kernel
theorem dX11_init_264 : decode cX11_init 264 = .ok (.return_, 1) := by decide +kernel
set_option maxRecDepth 20000 in
theorem ggX11_beginAnew_X4_set : GoodIn wsX11_beginAnew wsX4_set := goodIn_ca (goodIn_r _ [16, 17, 18, 19, 20, 21, 22, 23, 24, 25, 26, 27, 15, 28, 29, 30, 31, 32, 33, 34, 35, 36, 37, 38, 39, 40, 41, 42, 43, 44, 45, 46, 47, 48, 49, 50, 51, 52, 53, 54, 55, 56, 57, 58, 187, 188, 189, 190, 191, 192, 193, 194, 195] (by decide +kernel) (by decide +kernel)) (goodIn_sub (fun _ h => List.mem_cons_of_mem _ (List.mem_append_right _ h)) (by decide +kernel))
set_option maxRecDepth 20000 in
theorem gX11_beginAnew_X4_set : GoodIn wsX11_beginAnew (wsV RX11 136 RX4 yX4_set wsX4_set) := goodIn_app (goodIn_of _ (by decide +kernel)) ggX11_beginAnew_X4_set
set_option maxRecDepth 20000 in
theorem ggX11_beginAnew_X2_renew : GoodIn wsX11_beginAnew wsX2_renew := goodIn_ca (goodIn_r _ [63, 64, 65, 66, 67, 68, 69, 70, 71, 72, 24, 73, 74, 75, 76, 77, 78, 79, 80, 81, 82, 62, 83, 84, 85, 46, 47, 15, 48, 33, 86, 87, 88, 89, 90, 91, 92, 93, 94, 95, 96, 97, 98, 99, 100, 101, 102, 103, 104, 105, 23, 25, 106, 107, 108, 196, 197, 198, 199, 200, 201, 202, 203, 204, 205, 162, 163, 164, 165, 166, 167, 168, 169, 170, 171, 172, 187, 188, 189, 190, 191, 192, 193, 194, 195, 206, 207, 208, 209, 210, 211] (by decide +kernel) (by decide +kernel)) (goodIn_sub (fun _ h => List.mem_cons_of_mem _ (List.mem_append_right _ h)) (by decide +kernel))
set_option maxRecDepth 20000 in
theorem gX11_beginAnew_X2_renew : GoodIn wsX11_beginAnew (wsV RX11 139 RX2 yX2_renew wsX2_renew) := goodIn_app (goodIn_of _ (by decide +kernel)) ggX11_beginAnew_X2_renew
set_option maxRecDepth 20000 in
theorem ggX11_beginAnew_X8_putInTurn : GoodIn wsX11_beginAnew wsX8_putInTurn := goodIn_r _ [113, 114, 115, 116, 117, 118, 119, 120, 121, 122, 112, 123, 124, 125, 126, 23, 24, 25, 212, 213, 214, 215, 216, 217, 218, 219] (by decide +kernel) (by decide +kernel)
set_option maxRecDepth 20000 in
theorem gX11_beginAnew_X8_putInTurn : GoodIn wsX11_beginAnew (wsV RX11 142 RX8 yX8_putInTurn wsX8_putInTurn) := goodIn_app (goodIn_of _ (by decide +kernel)) ggX11_beginAnew_X8_putInTurn
set_option maxRecDepth 20000 in
theorem ggX11_beginAnew_X9_forget : GoodIn wsX11_beginAnew wsX9_forget := goodIn_r _ [131, 132, 133, 220, 221, 222, 223, 224, 225, 226, 227, 228, 229] (by decide +kernel) (by decide +kernel)
set_option maxRecDepth 20000 in
theorem gX11_beginAnew_X9_forget : GoodIn wsX11_beginAnew (wsV RX11 151 RX9 yX9_forget wsX9_forget) := goodIn_app (goodIn_of _ (by decide +kernel)) ggX11_beginAnew_X9_forget
set_option maxRecDepth 20000 in
theorem ggX11_beginAnew_X11_startChanged : GoodIn wsX11_beginAnew wsX11_startChanged := goodIn_r _ [138, 7, 139, 140, 141, 137, 142, 143, 144, 145, 146, 147, 148, 149, 150, 151, 152, 153, 154, 155, 156, 157, 158, 159, 160, 161, 178, 179, 180, 181] (by decide +kernel) (by decide +kernel)
set_option maxRecDepth 20000 in
theorem gX11_beginAnew_X11_startChanged : GoodIn wsX11_beginAnew (wsV RX11 154 RX11 yX11_startChanged wsX11_startChanged) := goodIn_app (goodIn_of _ (by decide +kernel)) ggX11_beginAnew_X11_startChanged
theorem dX11_beginAnew_0 : decode cX11_beginAnew 0 = .ok (.aload_n 0, 1) := by decide +kernel
theorem dX11_beginAnew_1 : decode cX11_beginAnew 1 = .ok (.getfield 32, 3) := by decide +kernel
theorem dX11_beginAnew_4 : decode cX11_beginAnew 4 = .ok (.aload_n 0, 1) := by decide +kernel
theorem dX11_beginAnew_5 : decode cX11_beginAnew 5 = .ok (.getfield 16, 3) := by decide +kernel
theorem dX11_beginAnew_8 : decode cX11_beginAnew 8 = .ok (.getfield 133, 3) := by decide +kernel
theorem dX11_beginAnew_11 : decode cX11_beginAnew 11 = .ok (.invokevirtual 136, 3) := by decide +kernel
theorem dX11_beginAnew_14 : decode cX11_beginAnew 14 = .ok (.aload_n 0, 1) := by decide +kernel
theorem dX11_beginAnew_15 : decode cX11_beginAnew 15 = .ok (.getfield 41, 3) := by decide +kernel
theorem dX11_beginAnew_18 : decode cX11_beginAnew 18 = .ok (.invokevirtual 139, 3) := by decide +kernel
theorem dX11_beginAnew_21 : decode cX11_beginAnew 21 = .ok (.aload_n 0, 1) := by decide +kernel
theorem dX11_beginAnew_22 : decode cX11_beginAnew 22 = .ok (.getfield 48, 3) := by decide +kernel
theorem dX11_beginAnew_25 : decode cX11_beginAnew 25 = .ok (.invokevirtual 142, 3) := by decide +kernel
theorem dX11_beginAnew_28 : decode cX11_beginAnew 28 = .ok (.aload_n 0, 1) := by decide +kernel
theorem dX11_beginAnew_29 : decode cX11_beginAnew 29 = .ok (.getfield 57, 3) := by decide +kernel
theorem dX11_beginAnew_32 : decode cX11_beginAnew 32 = .ok (.iconst 0, 1) := by decide +kernel
theorem dX11_beginAnew_33 : decode cX11_beginAnew 33 = .ok (.putfield 145, 3) := by decide +kernel
theorem dX11_beginAnew_36 : decode cX11_beginAnew 36 = .ok (.aload_n 0, 1) := by decide +kernel
theorem dX11_beginAnew_37 : decode cX11_beginAnew 37 = .ok (.getfield 61, 3) := by decide +kernel
theorem dX11_beginAnew_40 : decode cX11_beginAnew 40 = .ok (.iconst 0, 1) := by decide +kernel
theorem dX11_beginAnew_41 : decode cX11_beginAnew 41 = .ok (.putfield 145, 3) := by decide +kernel
theorem dX11_beginAnew_44 : decode cX11_beginAnew 44 = .ok (.aload_n 0, 1) := by decide +kernel
theorem dX11_beginAnew_45 : decode cX11_beginAnew 45 = .ok (.getfield 78, 3) := by decide +kernel
theorem dX11_beginAnew_48 : decode cX11_beginAnew 48 = .ok (.iconst 1, 1) := by decide +kernel
theorem dX11_beginAnew_49 : decode cX11_beginAnew 49 = .ok (.aaload, 1) := by decide +kernel
theorem dX11_beginAnew_50 : decode cX11_beginAnew 50 = .ok (.iconst 0, 1) := by decide +kernel
theorem dX11_beginAnew_51 : decode cX11_beginAnew 51 = .ok (.putfield 149, 3) := by decide +kernel
theorem dX11_beginAnew_54 : decode cX11_beginAnew 54 = .ok (.aload_n 0, 1) := by decide +kernel
theorem dX11_beginAnew_55 : decode cX11_beginAnew 55 = .ok (.getfield 93, 3) := by decide +kernel
theorem dX11_beginAnew_58 : decode cX11_beginAnew 58 = .ok (.iconst 0, 1) := by decide +kernel
theorem dX11_beginAnew_59 : decode cX11_beginAnew 59 = .ok (.putfield 150, 3) := by decide +kernel
theorem dX11_beginAnew_62 : decode cX11_beginAnew 62 = .ok (.aload_n 0, 1) := by decide +kernel
theorem dX11_beginAnew_63 : decode cX11_beginAnew 63 = .ok (.getfield 100, 3) := by decide +kernel
theorem dX11_beginAnew_66 : decode cX11_beginAnew 66 = .ok (.invokevirtual 151, 3) := by decide +kernel
theorem dX11_beginAnew_69 : decode cX11_beginAnew 69 = .ok (.aload_n 0, 1) := by decide +kernel
theorem dX11_beginAnew_70 : decode cX11_beginAnew 70 = .ok (.bipush (-3), 2) := by decide +kernel
theorem dX11_beginAnew_72 : decode cX11_beginAnew 72 = .ok (.putfield 104, 3) := by decide +kernel
theorem dX11_beginAnew_75 : decode cX11_beginAnew 75 = .ok (.aload_n 0, 1) := by decide +kernel
theorem dX11_beginAnew_76 : decode cX11_beginAnew 76 = .ok (.bipush (-3), 2) := by decide +kernel
theorem dX11_beginAnew_78 : decode cX11_beginAnew 78 = .ok (.putfield 108, 3) := by decide +kernel
theorem dX11_beginAnew_81 : decode cX11_beginAnew 81 = .ok (.aload_n 0, 1) := by decide +kernel
theorem dX11_beginAnew_82 : decode cX11_beginAnew 82 = .ok (.invokevirtual 154, 3) := by decide +kernel
theorem dX11_beginAnew_85 : decode cX11_beginAnew 85 = .ok (.return_, 1) := by decide +kernel
set_option maxRecDepth 20000 in
theorem ggX11_startChanged_X11_stageChanged : GoodIn wsX11_startChanged wsX11_stageChanged := goodIn_r _ [6, 7, 8, 9, 10, 11, 12, 13, 14, 15, 16, 17, 18, 19, 20, 21, 22, 23, 24, 25, 26, 27, 28, 29] (by decide +kernel) (by decide +kernel)
set_option maxRecDepth 20000 in
theorem gX11_startChanged_X11_stageChanged : GoodIn wsX11_startChanged (wsV RX11 157 RX11 yX11_stageChanged wsX11_stageChanged) := goodIn_app (goodIn_of _ (by decide +kernel)) ggX11_startChanged_X11_stageChanged
theorem dX11_startChanged_0 : decode cX11_startChanged 0 = .ok (.aload_n 0, 1) := by decide +kernel
theorem dX11_startChanged_1 : decode cX11_startChanged 1 = .ok (.getfield 78, 3) := by decide +kernel
theorem dX11_startChanged_4 : decode cX11_startChanged 4 = .ok (.iconst 0, 1) := by decide +kernel
theorem dX11_startChanged_5 : decode cX11_startChanged 5 = .ok (.aaload, 1) := by decide +kernel
theorem dX11_startChanged_6 : decode cX11_startChanged 6 = .ok (.iconst 0, 1) := by decide +kernel
theorem dX11_startChanged_7 : decode cX11_startChanged 7 = .ok (.putfield 149, 3) := by decide +kernel
theorem dX11_startChanged_10 : decode cX11_startChanged 10 = .ok (.aload_n 0, 1) := by decide +kernel
theorem dX11_startChanged_11 : decode cX11_startChanged 11 = .ok (.getfield 78, 3) := by decide +kernel
theorem dX11_startChanged_14 : decode cX11_startChanged 14 = .ok (.iconst 2, 1) := by decide +kernel
theorem dX11_startChanged_15 : decode cX11_startChanged 15 = .ok (.aaload, 1) := by decide +kernel
theorem dX11_startChanged_16 : decode cX11_startChanged 16 = .ok (.iconst 0, 1) := by decide +kernel
theorem dX11_startChanged_17 : decode cX11_startChanged 17 = .ok (.putfield 149, 3) := by decide +kernel
theorem dX11_startChanged_20 : decode cX11_startChanged 20 = .ok (.aload_n 0, 1) := by decide +kernel
theorem dX11_startChanged_21 : decode cX11_startChanged 21 = .ok (.invokevirtual 157, 3) := by decide +kernel
theorem dX11_startChanged_24 : decode cX11_startChanged 24 = .ok (.return_, 1) := by decide +kernel
theorem dX11_stageChanged_0 : decode cX11_stageChanged 0 = .ok (.iconst 0, 1) := by decide +kernel
theorem dX11_stageChanged_1 : decode cX11_stageChanged 1 = .ok (.istore_n 1, 1) := by decide +kernel
theorem dX11_stageChanged_2 : decode cX11_stageChanged 2 = .ok (.iload_n 1, 1) := by decide +kernel
theorem dX11_stageChanged_3 : decode cX11_stageChanged 3 = .ok (.iconst 3, 1) := by decide +kernel
theorem dX11_stageChanged_4 : decode cX11_stageChanged 4 = .ok (.if_icmp .ge 19, 3) := by decide +kernel
theorem dX11_stageChanged_7 : decode cX11_stageChanged 7 = .ok (.aload_n 0, 1) := by decide +kernel
theorem dX11_stageChanged_8 : decode cX11_stageChanged 8 = .ok (.getfield 82, 3) := by decide +kernel
theorem dX11_stageChanged_11 : decode cX11_stageChanged 11 = .ok (.iload_n 1, 1) := by decide +kernel
theorem dX11_stageChanged_12 : decode cX11_stageChanged 12 = .ok (.aaload, 1) := by decide +kernel
theorem dX11_stageChanged_13 : decode cX11_stageChanged 13 = .ok (.iconst 0, 1) := by decide +kernel
theorem dX11_stageChanged_14 : decode cX11_stageChanged 14 = .ok (.putfield 149, 3) := by decide +kernel
theorem dX11_stageChanged_17 : decode cX11_stageChanged 17 = .ok (.iinc 1 1, 3) := by decide +kernel
theorem dX11_stageChanged_20 : decode cX11_stageChanged 20 = .ok (.goto (-18), 3) := by decide +kernel
theorem dX11_stageChanged_23 : decode cX11_stageChanged 23 = .ok (.return_, 1) := by decide +kernel
theorem dJ6_bitCount_0f7a4_0 : decode cJ6_bitCount_0f7a4 0 = .ok (.iload_n 0, 1) := by decide +kernel
theorem dJ6_bitCount_0f7a4_1 : decode cJ6_bitCount_0f7a4 1 = .ok (.iload_n 0, 1) := by decide +kernel
theorem dJ6_bitCount_0f7a4_2 : decode cJ6_bitCount_0f7a4 2 = .ok (.iconst 1, 1) := by decide +kernel
theorem dJ6_bitCount_0f7a4_3 : decode cJ6_bitCount_0f7a4 3 = .ok (.iushr, 1) := by decide +kernel
theorem dJ6_bitCount_0f7a4_4 : decode cJ6_bitCount_0f7a4 4 = .ok (.ldc_w 265, 3) := by decide +kernel
theorem dJ6_bitCount_0f7a4_7 : decode cJ6_bitCount_0f7a4 7 = .ok (.iand, 1) := by decide +kernel
theorem dJ6_bitCount_0f7a4_8 : decode cJ6_bitCount_0f7a4 8 = .ok (.isub, 1) := by decide +kernel
theorem dJ6_bitCount_0f7a4_9 : decode cJ6_bitCount_0f7a4 9 = .ok (.istore_n 0, 1) := by decide +kernel
theorem dJ6_bitCount_0f7a4_10 : decode cJ6_bitCount_0f7a4 10 = .ok (.iload_n 0, 1) := by decide +kernel
theorem dJ6_bitCount_0f7a4_11 : decode cJ6_bitCount_0f7a4 11 = .ok (.ldc_w 266, 3) := by decide +kernel
theorem dJ6_bitCount_0f7a4_14 : decode cJ6_bitCount_0f7a4 14 = .ok (.iand, 1) := by decide +kernel
theorem dJ6_bitCount_0f7a4_15 : decode cJ6_bitCount_0f7a4 15 = .ok (.iload_n 0, 1) := by decide +kernel
theorem dJ6_bitCount_0f7a4_16 : decode cJ6_bitCount_0f7a4 16 = .ok (.iconst 2, 1) := by decide +kernel
theorem dJ6_bitCount_0f7a4_17 : decode cJ6_bitCount_0f7a4 17 = .ok (.iushr, 1) := by decide +kernel
theorem dJ6_bitCount_0f7a4_18 : decode cJ6_bitCount_0f7a4 18 = .ok (.ldc_w 266, 3) := by decide +kernel
theorem dJ6_bitCount_0f7a4_21 : decode cJ6_bitCount_0f7a4 21 = .ok (.iand, 1) := by decide +kernel
theorem dJ6_bitCount_0f7a4_22 : decode cJ6_bitCount_0f7a4 22 = .ok (.iadd, 1) := by decide +kernel
theorem dJ6_bitCount_0f7a4_23 : decode cJ6_bitCount_0f7a4 23 = .ok (.istore_n 0, 1) := by decide +kernel
theorem dJ6_bitCount_0f7a4_24 : decode cJ6_bitCount_0f7a4 24 = .ok (.iload_n 0, 1) := by decide +kernel
theorem dJ6_bitCount_0f7a4_25 : decode cJ6_bitCount_0f7a4 25 = .ok (.iload_n 0, 1) := by decide +kernel
theorem dJ6_bitCount_0f7a4_26 : decode cJ6_bitCount_0f7a4 26 = .ok (.iconst 4, 1) := by decide +kernel
theorem dJ6_bitCount_0f7a4_27 : decode cJ6_bitCount_0f7a4 27 = .ok (.iushr, 1) := by decide +kernel
theorem dJ6_bitCount_0f7a4_28 : decode cJ6_bitCount_0f7a4 28 = .ok (.iadd, 1) := by decide +kernel
theorem dJ6_bitCount_0f7a4_29 : decode cJ6_bitCount_0f7a4 29 = .ok (.ldc_w 267, 3) := by decide +kernel
theorem dJ6_bitCount_0f7a4_32 : decode cJ6_bitCount_0f7a4 32 = .ok (.iand, 1) := by decide +kernel
theorem dJ6_bitCount_0f7a4_33 : decode cJ6_bitCount_0f7a4 33 = .ok (.istore_n 0, 1) := by decide +kernel
theorem dJ6_bitCount_0f7a4_34 : decode cJ6_bitCount_0f7a4 34 = .ok (.iload_n 0, 1) := by decide +kernel
theorem dJ6_bitCount_0f7a4_35 : decode cJ6_bitCount_0f7a4 35 = .ok (.iload_n 0, 1) := by decide +kernel
theorem dJ6_bitCount_0f7a4_36 : decode cJ6_bitCount_0f7a4 36 = .ok (.bipush 8, 2) := by decide +kernel
theorem dJ6_bitCount_0f7a4_38 : decode cJ6_bitCount_0f7a4 38 = .ok (.iushr, 1) := by decide +kernel
theorem dJ6_bitCount_0f7a4_39 : decode cJ6_bitCount_0f7a4 39 = .ok (.iadd, 1) := by decide +kernel
theorem dJ6_bitCount_0f7a4_40 : decode cJ6_bitCount_0f7a4 40 = .ok (.istore_n 0, 1) := by decide +kernel
theorem dJ6_bitCount_0f7a4_41 : decode cJ6_bitCount_0f7a4 41 = .ok (.iload_n 0, 1) := by decide +kernel
theorem dJ6_bitCount_0f7a4_42 : decode cJ6_bitCount_0f7a4 42 = .ok (.iload_n 0, 1) := by decide +kernel
theorem dJ6_bitCount_0f7a4_43 : decode cJ6_bitCount_0f7a4 43 = .ok (.bipush 16, 2) := by decide +kernel
theorem dJ6_bitCount_0f7a4_45 : decode cJ6_bitCount_0f7a4 45 = .ok (.iushr, 1) := by decide +kernel
theorem dJ6_bitCount_0f7a4_46 : decode cJ6_bitCount_0f7a4 46 = .ok (.iadd, 1) := by decide +kernel
theorem dJ6_bitCount_0f7a4_47 : decode cJ6_bitCount_0f7a4 47 = .ok (.istore_n 0, 1) := by decide +kernel
theorem dJ6_bitCount_0f7a4_48 : decode cJ6_bitCount_0f7a4 48 = .ok (.iload_n 0, 1) := by decide +kernel
theorem dJ6_bitCount_0f7a4_49 : decode cJ6_bitCount_0f7a4 49 = .ok (.bipush 63, 2) := by decide +kernel
theorem dJ6_bitCount_0f7a4_51 : decode cJ6_bitCount_0f7a4 51 = .ok (.iand, 1) := by decide +kernel
theorem dJ6_bitCount_0f7a4_52 : decode cJ6_bitCount_0f7a4 52 = .ok (.ireturn, 1) := by decide +kernel
theorem dJ7_rangeCheck_23922_0 : decode cJ7_rangeCheck_23922 0 = .ok (.iload_n 1, 1) := by decide +kernel
theorem dJ7_rangeCheck_23922_1 : decode cJ7_rangeCheck_23922 1 = .ok (.iload_n 2, 1) := by decide +kernel
theorem dJ7_rangeCheck_23922_2 : decode cJ7_rangeCheck_23922 2 = .ok (.if_icmp .le 44, 3) := by decide +kernel
theorem dJ7_rangeCheck_23922_46 : decode cJ7_rangeCheck_23922 46 = .ok (.iload_n 1, 1) := by decide +kernel
theorem dJ7_rangeCheck_23922_47 : decode cJ7_rangeCheck_23922 47 = .ok (.ifCond .ge 12, 3) := by decide +kernel
theorem dJ7_rangeCheck_23922_59 : decode cJ7_rangeCheck_23922 59 = .ok (.iload_n 2, 1) := by decide +kernel
theorem dJ7_rangeCheck_23922_60 : decode cJ7_rangeCheck_23922 60 = .ok (.iload_n 0, 1) := by decide +kernel
theorem dJ7_rangeCheck_23922_61 : decode cJ7_rangeCheck_23922 61 = .ok (.if_icmp .le 12, 3) := by decide +kernel
theorem dJ7_rangeCheck_23922_73 : decode cJ7_rangeCheck_23922 73 = .ok (.return_, 1) := by decide +kernel
theorem dJ7_fill_d0a16_0 : decode cJ7_fill_d0a16 0 = .ok (.iconst 0, 1) := by decide +kernel
theorem dJ7_fill_d0a16_1 : decode cJ7_fill_d0a16 1 = .ok (.istore_n 3, 1) := by decide +kernel
theorem dJ7_fill_d0a16_2 : decode cJ7_fill_d0a16 2 = .ok (.aload_n 0, 1) := by decide +kernel
theorem dJ7_fill_d0a16_3 : decode cJ7_fill_d0a16 3 = .ok (.arraylength, 1) := by decide +kernel
theorem dJ7_fill_d0a16_4 : decode cJ7_fill_d0a16 4 = .ok (.istore 4, 2) := by decide +kernel
theorem dJ7_fill_d0a16_6 : decode cJ7_fill_d0a16 6 = .ok (.iload_n 3, 1) := by decide +kernel
theorem dJ7_fill_d0a16_7 : decode cJ7_fill_d0a16 7 = .ok (.iload 4, 2) := by decide +kernel
theorem dJ7_fill_d0a16_9 : decode cJ7_fill_d0a16 9 = .ok (.if_icmp .ge 13, 3) := by decide +kernel
theorem dJ7_fill_d0a16_12 : decode cJ7_fill_d0a16 12 = .ok (.aload_n 0, 1) := by decide +kernel
theorem dJ7_fill_d0a16_13 : decode cJ7_fill_d0a16 13 = .ok (.iload_n 3, 1) := by decide +kernel
theorem dJ7_fill_d0a16_14 : decode cJ7_fill_d0a16 14 = .ok (.lload_n 1, 1) := by decide +kernel
theorem dJ7_fill_d0a16_15 : decode cJ7_fill_d0a16 15 = .ok (.lastore, 1) := by decide +kernel
theorem dJ7_fill_d0a16_16 : decode cJ7_fill_d0a16 16 = .ok (.iinc 3 1, 3) := by decide +kernel
theorem dJ7_fill_d0a16_19 : decode cJ7_fill_d0a16 19 = .ok (.goto (-13), 3) := by decide +kernel
theorem dJ7_fill_d0a16_22 : decode cJ7_fill_d0a16 22 = .ok (.return_, 1) := by decide +kernel
theorem dJ7_fill_53178_0 : decode cJ7_fill_53178 0 = .ok (.iconst 0, 1) := by decide +kernel
theorem dJ7_fill_53178_1 : decode cJ7_fill_53178 1 = .ok (.istore_n 2, 1) := by decide +kernel
theorem dJ7_fill_53178_2 : decode cJ7_fill_53178 2 = .ok (.aload_n 0, 1) := by decide +kernel
theorem dJ7_fill_53178_3 : decode cJ7_fill_53178 3 = .ok (.arraylength, 1) := by decide +kernel
theorem dJ7_fill_53178_4 : decode cJ7_fill_53178 4 = .ok (.istore_n 3, 1) := by decide +kernel
theorem dJ7_fill_53178_5 : decode cJ7_fill_53178 5 = .ok (.iload_n 2, 1) := by decide +kernel
theorem dJ7_fill_53178_6 : decode cJ7_fill_53178 6 = .ok (.iload_n 3, 1) := by decide +kernel
theorem dJ7_fill_53178_7 : decode cJ7_fill_53178 7 = .ok (.if_icmp .ge 13, 3) := by decide +kernel
theorem dJ7_fill_53178_10 : decode cJ7_fill_53178 10 = .ok (.aload_n 0, 1) := by decide +kernel
theorem dJ7_fill_53178_11 : decode cJ7_fill_53178 11 = .ok (.iload_n 2, 1) := by decide +kernel
theorem dJ7_fill_53178_12 : decode cJ7_fill_53178 12 = .ok (.iload_n 1, 1) := by decide +kernel
theorem dJ7_fill_53178_13 : decode cJ7_fill_53178 13 = .ok (.iastore, 1) := by decide +kernel
theorem dJ7_fill_53178_14 : decode cJ7_fill_53178 14 = .ok (.iinc 2 1, 3) := by decide +kernel
theorem dJ7_fill_53178_17 : decode cJ7_fill_53178 17 = .ok (.goto (-12), 3) := by decide +kernel
theorem dJ7_fill_53178_20 : decode cJ7_fill_53178 20 = .ok (.return_, 1) := by decide +kernel
set_option maxRecDepth 20000 in
theorem ggJ7_fill_fda19_J7_rangeCheck_23922 : GoodIn wsJ7_fill_fda19 wsJ7_rangeCheck_23922 := goodIn_r _ [4, 5, 6, 7, 8, 9, 10, 11, 12, 13] (by decide +kernel) (by decide +kernel)
set_option maxRecDepth 20000 in
theorem gJ7_fill_fda19_J7_rangeCheck_23922 : GoodIn wsJ7_fill_fda19 (va_wsS RJ7 13 yJ7_rangeCheck_23922 wsJ7_rangeCheck_23922) := goodIn_app (goodIn_of _ (by decide +kernel)) ggJ7_fill_fda19_J7_rangeCheck_23922
theorem dJ7_fill_fda19_0 : decode cJ7_fill_fda19 0 = .ok (.aload_n 0, 1) := by decide +kernel
theorem dJ7_fill_fda19_1 : decode cJ7_fill_fda19 1 = .ok (.arraylength, 1) := by decide +kernel
theorem dJ7_fill_fda19_2 : decode cJ7_fill_fda19 2 = .ok (.iload_n 1, 1) := by decide +kernel
theorem dJ7_fill_fda19_3 : decode cJ7_fill_fda19 3 = .ok (.iload_n 2, 1) := by decide +kernel
theorem dJ7_fill_fda19_4 : decode cJ7_fill_fda19 4 = .ok (.invokestatic 13, 3) := by decide +kernel
theorem dJ7_fill_fda19_7 : decode cJ7_fill_fda19 7 = .ok (.iload_n 1, 1) := by decide +kernel
theorem dJ7_fill_fda19_8 : decode cJ7_fill_fda19 8 = .ok (.istore 4, 2) := by decide +kernel
theorem dJ7_fill_fda19_10 : decode cJ7_fill_fda19 10 = .ok (.iload 4, 2) := by decide +kernel
theorem dJ7_fill_fda19_12 : decode cJ7_fill_fda19 12 = .ok (.iload_n 2, 1) := by decide +kernel
theorem dJ7_fill_fda19_13 : decode cJ7_fill_fda19 13 = .ok (.if_icmp .ge 14, 3) := by decide +kernel
theorem dJ7_fill_fda19_16 : decode cJ7_fill_fda19 16 = .ok (.aload_n 0, 1) := by decide +kernel
theorem dJ7_fill_fda19_17 : decode cJ7_fill_fda19 17 = .ok (.iload 4, 2) := by decide +kernel
theorem dJ7_fill_fda19_19 : decode cJ7_fill_fda19 19 = .ok (.iload_n 3, 1) := by decide +kernel
theorem dJ7_fill_fda19_20 : decode cJ7_fill_fda19 20 = .ok (.iastore, 1) := by decide +kernel
theorem dJ7_fill_fda19_21 : decode cJ7_fill_fda19 21 = .ok (.iinc 4 1, 3) := by decide +kernel
theorem dJ7_fill_fda19_24 : decode cJ7_fill_fda19 24 = .ok (.goto (-14), 3) := by decide +kernel
theorem dJ7_fill_fda19_27 : decode cJ7_fill_fda19 27 = .ok (.return_, 1) := by decide +kernel
abbrev vwCl : List vw_C := [(RJ0, TJ0, 4), (RJ4, TJ4, 4), (RJx00060, TJx00060, 6), (RX0, TX0, 5), (RX1, TX1, 4), (RX2, TX2, 10), (RX3, TX3, 11), (RX4, TX4, 9), (RX5, TX5, 9), (RX6, TX6, 10), (RX7, TX7, 6), (RX8, TX8, 8), (RX9, TX9, 10), (RX10, TX10, 5), (RX11, TX11, 18), (RX12, TX12, 66)]
