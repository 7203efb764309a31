/-- a private method of a class that the tables say can be made, by its rows of tables_1 -/
def lw_okq (q : MethodName × Nat) : Prop := (q.1.cls ≠ "java/lang/invoke/MethodHandle" ∧ q.1.cls ≠ "java/lang/invoke/VarHandle") ∧ Cond.instantiable q.1.cls q.2 ∈ tables_1 ∧ Cond.privateMethod q.1 ∈ tables_1 ∧ Cond.instanceMethod q.1 ∈ tables_1
set_option maxRecDepth 20000 in
theorem lw_p0 : lw_okq (⟨"BallPots", "beginAnew", "()V"⟩, 18) := ⟨⟨by decide +kernel, by decide +kernel⟩, List.mem_of_getElem? (i := 32) (Eq.refl _), List.mem_of_getElem? (i := 470) (Eq.refl _), List.mem_of_getElem? (i := 471) (Eq.refl _)⟩
set_option maxRecDepth 20000 in
theorem lw_p1 : lw_okq (⟨"BallPots$Ranks", "addRow", "()V"⟩, 9) := ⟨⟨by decide +kernel, by decide +kernel⟩, List.mem_of_getElem? (i := 148) (Eq.refl _), List.mem_of_getElem? (i := 484) (Eq.refl _), List.mem_of_getElem? (i := 485) (Eq.refl _)⟩
set_option maxRecDepth 20000 in
theorem lw_p2 : lw_okq (⟨"BallPots$Ranks", "setSwaps", "(I)V"⟩, 9) := ⟨⟨by decide +kernel, by decide +kernel⟩, List.mem_of_getElem? (i := 148) (Eq.refl _), List.mem_of_getElem? (i := 488) (Eq.refl _), List.mem_of_getElem? (i := 489) (Eq.refl _)⟩
set_option maxRecDepth 20000 in
theorem lw_p3 : lw_okq (⟨"BallPots$Ranks", "rankWithSwapped", "(III)I"⟩, 9) := ⟨⟨by decide +kernel, by decide +kernel⟩, List.mem_of_getElem? (i := 148) (Eq.refl _), List.mem_of_getElem? (i := 492) (Eq.refl _), List.mem_of_getElem? (i := 493) (Eq.refl _)⟩
set_option maxRecDepth 20000 in
theorem lw_p4 : lw_okq (⟨"java/lang/Throwable", "fillInStackTrace", "(I)Ljava/lang/Throwable;"⟩, 6) := ⟨⟨by decide +kernel, by decide +kernel⟩, List.mem_of_getElem? (i := 559) (Eq.refl _), List.mem_of_getElem? (i := 557) (Eq.refl _), List.mem_of_getElem? (i := 558) (Eq.refl _)⟩
set_option maxRecDepth 20000 in
theorem lw_p5 : lw_okq (⟨"BallPots$Draws", "tellHeld", "(I)V"⟩, 10) := ⟨⟨by decide +kernel, by decide +kernel⟩, List.mem_of_getElem? (i := 197) (Eq.refl _), List.mem_of_getElem? (i := 828) (Eq.refl _), List.mem_of_getElem? (i := 829) (Eq.refl _)⟩
set_option maxRecDepth 20000 in
theorem lw_p6 : lw_okq (⟨"BallPots$Draws", "breakBar", "(II)V"⟩, 10) := ⟨⟨by decide +kernel, by decide +kernel⟩, List.mem_of_getElem? (i := 197) (Eq.refl _), List.mem_of_getElem? (i := 833) (Eq.refl _), List.mem_of_getElem? (i := 834) (Eq.refl _)⟩
set_option maxRecDepth 20000 in
theorem lw_p7 : lw_okq (⟨"BallPots$Draws", "listLawful", "()V"⟩, 10) := ⟨⟨by decide +kernel, by decide +kernel⟩, List.mem_of_getElem? (i := 197) (Eq.refl _), List.mem_of_getElem? (i := 842) (Eq.refl _), List.mem_of_getElem? (i := 843) (Eq.refl _)⟩
set_option maxRecDepth 20000 in
theorem lw_p8 : lw_okq (⟨"BallPots$Draws", "tellWithin", "()V"⟩, 10) := ⟨⟨by decide +kernel, by decide +kernel⟩, List.mem_of_getElem? (i := 197) (Eq.refl _), List.mem_of_getElem? (i := 846) (Eq.refl _), List.mem_of_getElem? (i := 847) (Eq.refl _)⟩
set_option maxRecDepth 20000 in
theorem lw_p9 : lw_okq (⟨"BallPots", "startChanged", "()V"⟩, 18) := ⟨⟨by decide +kernel, by decide +kernel⟩, List.mem_of_getElem? (i := 32) (Eq.refl _), List.mem_of_getElem? (i := 870) (Eq.refl _), List.mem_of_getElem? (i := 871) (Eq.refl _)⟩
set_option maxRecDepth 20000 in
theorem lw_p10 : lw_okq (⟨"BallPots", "stageChanged", "()V"⟩, 18) := ⟨⟨by decide +kernel, by decide +kernel⟩, List.mem_of_getElem? (i := 32) (Eq.refl _), List.mem_of_getElem? (i := 874) (Eq.refl _), List.mem_of_getElem? (i := 875) (Eq.refl _)⟩
set_option maxRecDepth 20000 in
theorem lw_p11 : lw_okq (⟨"BallPots", "tapeFour", "(I)V"⟩, 18) := ⟨⟨by decide +kernel, by decide +kernel⟩, List.mem_of_getElem? (i := 32) (Eq.refl _), List.mem_of_getElem? (i := 937) (Eq.refl _), List.mem_of_getElem? (i := 938) (Eq.refl _)⟩
set_option maxRecDepth 20000 in
theorem lw_p12 : lw_okq (⟨"BallPots$Reader", "step", "()V"⟩, 9) := ⟨⟨by decide +kernel, by decide +kernel⟩, List.mem_of_getElem? (i := 109) (Eq.refl _), List.mem_of_getElem? (i := 954) (Eq.refl _), List.mem_of_getElem? (i := 955) (Eq.refl _)⟩
set_option maxRecDepth 20000 in
theorem lw_p13 : lw_okq (⟨"BallPots$Reader", "stepWord", "()V"⟩, 9) := ⟨⟨by decide +kernel, by decide +kernel⟩, List.mem_of_getElem? (i := 109) (Eq.refl _), List.mem_of_getElem? (i := 964) (Eq.refl _), List.mem_of_getElem? (i := 965) (Eq.refl _)⟩
set_option maxRecDepth 20000 in
theorem lw_p14 : lw_okq (⟨"BallPots$Reader", "stepNumber", "()V"⟩, 9) := ⟨⟨by decide +kernel, by decide +kernel⟩, List.mem_of_getElem? (i := 109) (Eq.refl _), List.mem_of_getElem? (i := 971) (Eq.refl _), List.mem_of_getElem? (i := 972) (Eq.refl _)⟩
set_option maxRecDepth 20000 in
theorem lw_p15 : lw_okq (⟨"BallPots$Reader", "readLine", "(Z)Z"⟩, 9) := ⟨⟨by decide +kernel, by decide +kernel⟩, List.mem_of_getElem? (i := 109) (Eq.refl _), List.mem_of_getElem? (i := 975) (Eq.refl _), List.mem_of_getElem? (i := 976) (Eq.refl _)⟩
def lw_privs_1 : List (MethodName × Nat) := [(⟨"BallPots", "beginAnew", "()V"⟩, 18), (⟨"BallPots$Ranks", "addRow", "()V"⟩, 9), (⟨"BallPots$Ranks", "setSwaps", "(I)V"⟩, 9), (⟨"BallPots$Ranks", "rankWithSwapped", "(III)I"⟩, 9), (⟨"java/lang/Throwable", "fillInStackTrace", "(I)Ljava/lang/Throwable;"⟩, 6), (⟨"BallPots$Draws", "tellHeld", "(I)V"⟩, 10), (⟨"BallPots$Draws", "breakBar", "(II)V"⟩, 10), (⟨"BallPots$Draws", "listLawful", "()V"⟩, 10), (⟨"BallPots$Draws", "tellWithin", "()V"⟩, 10), (⟨"BallPots", "startChanged", "()V"⟩, 18), (⟨"BallPots", "stageChanged", "()V"⟩, 18), (⟨"BallPots", "tapeFour", "(I)V"⟩, 18), (⟨"BallPots$Reader", "step", "()V"⟩, 9), (⟨"BallPots$Reader", "stepWord", "()V"⟩, 9), (⟨"BallPots$Reader", "stepNumber", "()V"⟩, 9), (⟨"BallPots$Reader", "readLine", "(Z)Z"⟩, 9)]
theorem lw_r1 : ∀ q ∈ lw_privs_1, lw_okq q := List.forall_mem_cons.mpr ⟨lw_p0, List.forall_mem_cons.mpr ⟨lw_p1, List.forall_mem_cons.mpr ⟨lw_p2, List.forall_mem_cons.mpr ⟨lw_p3, List.forall_mem_cons.mpr ⟨lw_p4, List.forall_mem_cons.mpr ⟨lw_p5, List.forall_mem_cons.mpr ⟨lw_p6, List.forall_mem_cons.mpr ⟨lw_p7, List.forall_mem_cons.mpr ⟨lw_p8, List.forall_mem_cons.mpr ⟨lw_p9, List.forall_mem_cons.mpr ⟨lw_p10, List.forall_mem_cons.mpr ⟨lw_p11, List.forall_mem_cons.mpr ⟨lw_p12, List.forall_mem_cons.mpr ⟨lw_p13, List.forall_mem_cons.mpr ⟨lw_p14, List.forall_mem_cons.mpr ⟨lw_p15, fun _ h => absurd h List.not_mem_nil⟩⟩⟩⟩⟩⟩⟩⟩⟩⟩⟩⟩⟩⟩⟩⟩
set_option maxRecDepth 20000 in
theorem lw_p16 : lw_okq (⟨"BallPots$Reader", "readUpToStop", "(Z)Z"⟩, 9) := ⟨⟨by decide +kernel, by decide +kernel⟩, List.mem_of_getElem? (i := 109) (Eq.refl _), List.mem_of_getElem? (i := 979) (Eq.refl _), List.mem_of_getElem? (i := 980) (Eq.refl _)⟩
set_option maxRecDepth 20000 in
theorem lw_p17 : lw_okq (⟨"BallPots$Reader", "fail", "(I)Z"⟩, 9) := ⟨⟨by decide +kernel, by decide +kernel⟩, List.mem_of_getElem? (i := 109) (Eq.refl _), List.mem_of_getElem? (i := 984) (Eq.refl _), List.mem_of_getElem? (i := 985) (Eq.refl _)⟩
set_option maxRecDepth 20000 in
theorem lw_p18 : lw_okq (⟨"BallPots$Reader", "readGroups", "()Z"⟩, 9) := ⟨⟨by decide +kernel, by decide +kernel⟩, List.mem_of_getElem? (i := 109) (Eq.refl _), List.mem_of_getElem? (i := 988) (Eq.refl _), List.mem_of_getElem? (i := 989) (Eq.refl _)⟩
set_option maxRecDepth 20000 in
theorem lw_p19 : lw_okq (⟨"BallPots$Reader", "isNumber", "(II)Z"⟩, 9) := ⟨⟨by decide +kernel, by decide +kernel⟩, List.mem_of_getElem? (i := 109) (Eq.refl _), List.mem_of_getElem? (i := 992) (Eq.refl _), List.mem_of_getElem? (i := 993) (Eq.refl _)⟩
set_option maxRecDepth 20000 in
theorem lw_p20 : lw_okq (⟨"BallPots$Reader", "readPot", "()Z"⟩, 9) := ⟨⟨by decide +kernel, by decide +kernel⟩, List.mem_of_getElem? (i := 109) (Eq.refl _), List.mem_of_getElem? (i := 996) (Eq.refl _), List.mem_of_getElem? (i := 997) (Eq.refl _)⟩
set_option maxRecDepth 20000 in
theorem lw_p21 : lw_okq (⟨"BallPots$Reader", "isName", "()Z"⟩, 9) := ⟨⟨by decide +kernel, by decide +kernel⟩, List.mem_of_getElem? (i := 109) (Eq.refl _), List.mem_of_getElem? (i := 1000) (Eq.refl _), List.mem_of_getElem? (i := 1001) (Eq.refl _)⟩
set_option maxRecDepth 20000 in
theorem lw_p22 : lw_okq (⟨"BallPots$Reader", "readMark", "()Z"⟩, 9) := ⟨⟨by decide +kernel, by decide +kernel⟩, List.mem_of_getElem? (i := 109) (Eq.refl _), List.mem_of_getElem? (i := 1018) (Eq.refl _), List.mem_of_getElem? (i := 1019) (Eq.refl _)⟩
set_option maxRecDepth 20000 in
theorem lw_p23 : lw_okq (⟨"BallPots$Reader", "readTeam", "()I"⟩, 9) := ⟨⟨by decide +kernel, by decide +kernel⟩, List.mem_of_getElem? (i := 109) (Eq.refl _), List.mem_of_getElem? (i := 1030) (Eq.refl _), List.mem_of_getElem? (i := 1031) (Eq.refl _)⟩
set_option maxRecDepth 20000 in
theorem lw_p24 : lw_okq (⟨"BallPots$Reader", "isRoomForBar", "()Z"⟩, 9) := ⟨⟨by decide +kernel, by decide +kernel⟩, List.mem_of_getElem? (i := 109) (Eq.refl _), List.mem_of_getElem? (i := 1034) (Eq.refl _), List.mem_of_getElem? (i := 1035) (Eq.refl _)⟩
set_option maxRecDepth 20000 in
theorem lw_p25 : lw_okq (⟨"BallPots$Reader", "readAtMost", "()Z"⟩, 9) := ⟨⟨by decide +kernel, by decide +kernel⟩, List.mem_of_getElem? (i := 109) (Eq.refl _), List.mem_of_getElem? (i := 1038) (Eq.refl _), List.mem_of_getElem? (i := 1039) (Eq.refl _)⟩
set_option maxRecDepth 20000 in
theorem lw_p26 : lw_okq (⟨"BallPots$Plan", "addBar", "(II)V"⟩, 11) := ⟨⟨by decide +kernel, by decide +kernel⟩, List.mem_of_getElem? (i := 40) (Eq.refl _), List.mem_of_getElem? (i := 1050) (Eq.refl _), List.mem_of_getElem? (i := 1051) (Eq.refl _)⟩
set_option maxRecDepth 20000 in
theorem lw_p27 : lw_okq (⟨"BallPots$Reader", "readApart", "()Z"⟩, 9) := ⟨⟨by decide +kernel, by decide +kernel⟩, List.mem_of_getElem? (i := 109) (Eq.refl _), List.mem_of_getElem? (i := 1054) (Eq.refl _), List.mem_of_getElem? (i := 1055) (Eq.refl _)⟩
set_option maxRecDepth 20000 in
theorem lw_p28 : lw_okq (⟨"BallPots$Reader", "readHeld", "(Z)Z"⟩, 9) := ⟨⟨by decide +kernel, by decide +kernel⟩, List.mem_of_getElem? (i := 109) (Eq.refl _), List.mem_of_getElem? (i := 1058) (Eq.refl _), List.mem_of_getElem? (i := 1059) (Eq.refl _)⟩
set_option maxRecDepth 20000 in
theorem lw_p29 : lw_okq (⟨"BallPots$Reader", "readStop", "()Z"⟩, 9) := ⟨⟨by decide +kernel, by decide +kernel⟩, List.mem_of_getElem? (i := 109) (Eq.refl _), List.mem_of_getElem? (i := 1070) (Eq.refl _), List.mem_of_getElem? (i := 1071) (Eq.refl _)⟩
set_option maxRecDepth 20000 in
theorem lw_p30 : lw_okq (⟨"BallPots", "isBar", "(I)Z"⟩, 18) := ⟨⟨by decide +kernel, by decide +kernel⟩, List.mem_of_getElem? (i := 32) (Eq.refl _), List.mem_of_getElem? (i := 1097) (Eq.refl _), List.mem_of_getElem? (i := 1098) (Eq.refl _)⟩
set_option maxRecDepth 20000 in
theorem lw_p31 : lw_okq (⟨"BallPots", "isTeam", "(I)Z"⟩, 18) := ⟨⟨by decide +kernel, by decide +kernel⟩, List.mem_of_getElem? (i := 32) (Eq.refl _), List.mem_of_getElem? (i := 1113) (Eq.refl _), List.mem_of_getElem? (i := 1114) (Eq.refl _)⟩
def lw_privs_2 : List (MethodName × Nat) := [(⟨"BallPots$Reader", "readUpToStop", "(Z)Z"⟩, 9), (⟨"BallPots$Reader", "fail", "(I)Z"⟩, 9), (⟨"BallPots$Reader", "readGroups", "()Z"⟩, 9), (⟨"BallPots$Reader", "isNumber", "(II)Z"⟩, 9), (⟨"BallPots$Reader", "readPot", "()Z"⟩, 9), (⟨"BallPots$Reader", "isName", "()Z"⟩, 9), (⟨"BallPots$Reader", "readMark", "()Z"⟩, 9), (⟨"BallPots$Reader", "readTeam", "()I"⟩, 9), (⟨"BallPots$Reader", "isRoomForBar", "()Z"⟩, 9), (⟨"BallPots$Reader", "readAtMost", "()Z"⟩, 9), (⟨"BallPots$Plan", "addBar", "(II)V"⟩, 11), (⟨"BallPots$Reader", "readApart", "()Z"⟩, 9), (⟨"BallPots$Reader", "readHeld", "(Z)Z"⟩, 9), (⟨"BallPots$Reader", "readStop", "()Z"⟩, 9), (⟨"BallPots", "isBar", "(I)Z"⟩, 18), (⟨"BallPots", "isTeam", "(I)Z"⟩, 18)]
theorem lw_r2 : ∀ q ∈ lw_privs_2, lw_okq q := List.forall_mem_cons.mpr ⟨lw_p16, List.forall_mem_cons.mpr ⟨lw_p17, List.forall_mem_cons.mpr ⟨lw_p18, List.forall_mem_cons.mpr ⟨lw_p19, List.forall_mem_cons.mpr ⟨lw_p20, List.forall_mem_cons.mpr ⟨lw_p21, List.forall_mem_cons.mpr ⟨lw_p22, List.forall_mem_cons.mpr ⟨lw_p23, List.forall_mem_cons.mpr ⟨lw_p24, List.forall_mem_cons.mpr ⟨lw_p25, List.forall_mem_cons.mpr ⟨lw_p26, List.forall_mem_cons.mpr ⟨lw_p27, List.forall_mem_cons.mpr ⟨lw_p28, List.forall_mem_cons.mpr ⟨lw_p29, List.forall_mem_cons.mpr ⟨lw_p30, List.forall_mem_cons.mpr ⟨lw_p31, fun _ h => absurd h List.not_mem_nil⟩⟩⟩⟩⟩⟩⟩⟩⟩⟩⟩⟩⟩⟩⟩⟩
set_option maxRecDepth 20000 in
theorem lw_p32 : lw_okq (⟨"BallPots", "isCode", "(I)Z"⟩, 18) := ⟨⟨by decide +kernel, by decide +kernel⟩, List.mem_of_getElem? (i := 32) (Eq.refl _), List.mem_of_getElem? (i := 1133) (Eq.refl _), List.mem_of_getElem? (i := 1134) (Eq.refl _)⟩
set_option maxRecDepth 20000 in
theorem lw_p33 : lw_okq (⟨"BallPots", "treeOfNow", "()LBallPots$Tree;"⟩, 18) := ⟨⟨by decide +kernel, by decide +kernel⟩, List.mem_of_getElem? (i := 32) (Eq.refl _), List.mem_of_getElem? (i := 1163) (Eq.refl _), List.mem_of_getElem? (i := 1164) (Eq.refl _)⟩
set_option maxRecDepth 20000 in
theorem lw_p34 : lw_okq (⟨"BallPots$Tree", "fillLast", "()V"⟩, 5) := ⟨⟨by decide +kernel, by decide +kernel⟩, List.mem_of_getElem? (i := 296) (Eq.refl _), List.mem_of_getElem? (i := 1172) (Eq.refl _), List.mem_of_getElem? (i := 1173) (Eq.refl _)⟩
set_option maxRecDepth 20000 in
theorem lw_p35 : lw_okq (⟨"BallPots$Tree", "codeOf", "(II)I"⟩, 5) := ⟨⟨by decide +kernel, by decide +kernel⟩, List.mem_of_getElem? (i := 296) (Eq.refl _), List.mem_of_getElem? (i := 1176) (Eq.refl _), List.mem_of_getElem? (i := 1177) (Eq.refl _)⟩
set_option maxRecDepth 20000 in
theorem lw_p36 : lw_okq (⟨"BallPots$Tree", "fillFromNext", "(I)V"⟩, 5) := ⟨⟨by decide +kernel, by decide +kernel⟩, List.mem_of_getElem? (i := 296) (Eq.refl _), List.mem_of_getElem? (i := 1180) (Eq.refl _), List.mem_of_getElem? (i := 1181) (Eq.refl _)⟩
set_option maxRecDepth 20000 in
theorem lw_p37 : lw_okq (⟨"BallPots$Stage", "ranksIf", "(III)I"⟩, 8) := ⟨⟨by decide +kernel, by decide +kernel⟩, List.mem_of_getElem? (i := 259) (Eq.refl _), List.mem_of_getElem? (i := 1197) (Eq.refl _), List.mem_of_getElem? (i := 1198) (Eq.refl _)⟩
set_option maxRecDepth 20000 in
theorem lw_p38 : lw_okq (⟨"BallPots", "isGroup", "(I)Z"⟩, 18) := ⟨⟨by decide +kernel, by decide +kernel⟩, List.mem_of_getElem? (i := 32) (Eq.refl _), List.mem_of_getElem? (i := 1224) (Eq.refl _), List.mem_of_getElem? (i := 1225) (Eq.refl _)⟩
set_option maxRecDepth 20000 in
theorem lw_p39 : lw_okq (⟨"BallPots$Draws", "fits", "(I[I)Z"⟩, 10) := ⟨⟨by decide +kernel, by decide +kernel⟩, List.mem_of_getElem? (i := 197) (Eq.refl _), List.mem_of_getElem? (i := 1264) (Eq.refl _), List.mem_of_getElem? (i := 1265) (Eq.refl _)⟩
set_option maxRecDepth 20000 in
theorem lw_p40 : lw_okq (⟨"BallPots", "chancesNow", "(I)LBallPots$Chances;"⟩, 18) := ⟨⟨by decide +kernel, by decide +kernel⟩, List.mem_of_getElem? (i := 32) (Eq.refl _), List.mem_of_getElem? (i := 1286) (Eq.refl _), List.mem_of_getElem? (i := 1287) (Eq.refl _)⟩
set_option maxRecDepth 20000 in
theorem lw_p41 : lw_okq (⟨"BallPots", "chancesAtStart", "(I)LBallPots$Chances;"⟩, 18) := ⟨⟨by decide +kernel, by decide +kernel⟩, List.mem_of_getElem? (i := 32) (Eq.refl _), List.mem_of_getElem? (i := 1290) (Eq.refl _), List.mem_of_getElem? (i := 1291) (Eq.refl _)⟩
set_option maxRecDepth 20000 in
theorem lw_p42 : lw_okq (⟨"BallPots$Reckoner", "walk", "(LBallPots$Chances;LBallPots$Tree;IIJ)V"⟩, 10) := ⟨⟨by decide +kernel, by decide +kernel⟩, List.mem_of_getElem? (i := 320) (Eq.refl _), List.mem_of_getElem? (i := 1315) (Eq.refl _), List.mem_of_getElem? (i := 1316) (Eq.refl _)⟩
set_option maxRecDepth 20000 in
theorem lw_p43 : lw_okq (⟨"BallPots$Spread", "skip", "(III)V"⟩, 6) := ⟨⟨by decide +kernel, by decide +kernel⟩, List.mem_of_getElem? (i := 326) (Eq.refl _), List.mem_of_getElem? (i := 1335) (Eq.refl _), List.mem_of_getElem? (i := 1336) (Eq.refl _)⟩
set_option maxRecDepth 20000 in
theorem lw_p44 : lw_okq (⟨"BallPots$Spread", "field", "(IIIJ)V"⟩, 6) := ⟨⟨by decide +kernel, by decide +kernel⟩, List.mem_of_getElem? (i := 326) (Eq.refl _), List.mem_of_getElem? (i := 1343) (Eq.refl _), List.mem_of_getElem? (i := 1344) (Eq.refl _)⟩
set_option maxRecDepth 20000 in
theorem lw_p45 : lw_okq (⟨"BallPots$Spread", "groupsOpen", "(II)I"⟩, 6) := ⟨⟨by decide +kernel, by decide +kernel⟩, List.mem_of_getElem? (i := 326) (Eq.refl _), List.mem_of_getElem? (i := 1349) (Eq.refl _), List.mem_of_getElem? (i := 1350) (Eq.refl _)⟩
set_option maxRecDepth 20000 in
theorem lw_p46 : lw_okq (⟨"BallPots$Spread", "fieldBall", "(IIIJI)V"⟩, 6) := ⟨⟨by decide +kernel, by decide +kernel⟩, List.mem_of_getElem? (i := 326) (Eq.refl _), List.mem_of_getElem? (i := 1355) (Eq.refl _), List.mem_of_getElem? (i := 1356) (Eq.refl _)⟩
set_option maxRecDepth 20000 in
theorem lw_p47 : lw_okq (⟨"BallPots$Reckoner", "addLast", "(LBallPots$Chances;LBallPots$Tree;JI)V"⟩, 10) := ⟨⟨by decide +kernel, by decide +kernel⟩, List.mem_of_getElem? (i := 320) (Eq.refl _), List.mem_of_getElem? (i := 1367) (Eq.refl _), List.mem_of_getElem? (i := 1368) (Eq.refl _)⟩
def lw_privs_3 : List (MethodName × Nat) := [(⟨"BallPots", "isCode", "(I)Z"⟩, 18), (⟨"BallPots", "treeOfNow", "()LBallPots$Tree;"⟩, 18), (⟨"BallPots$Tree", "fillLast", "()V"⟩, 5), (⟨"BallPots$Tree", "codeOf", "(II)I"⟩, 5), (⟨"BallPots$Tree", "fillFromNext", "(I)V"⟩, 5), (⟨"BallPots$Stage", "ranksIf", "(III)I"⟩, 8), (⟨"BallPots", "isGroup", "(I)Z"⟩, 18), (⟨"BallPots$Draws", "fits", "(I[I)Z"⟩, 10), (⟨"BallPots", "chancesNow", "(I)LBallPots$Chances;"⟩, 18), (⟨"BallPots", "chancesAtStart", "(I)LBallPots$Chances;"⟩, 18), (⟨"BallPots$Reckoner", "walk", "(LBallPots$Chances;LBallPots$Tree;IIJ)V"⟩, 10), (⟨"BallPots$Spread", "skip", "(III)V"⟩, 6), (⟨"BallPots$Spread", "field", "(IIIJ)V"⟩, 6), (⟨"BallPots$Spread", "groupsOpen", "(II)I"⟩, 6), (⟨"BallPots$Spread", "fieldBall", "(IIIJI)V"⟩, 6), (⟨"BallPots$Reckoner", "addLast", "(LBallPots$Chances;LBallPots$Tree;JI)V"⟩, 10)]
theorem lw_r3 : ∀ q ∈ lw_privs_3, lw_okq q := List.forall_mem_cons.mpr ⟨lw_p32, List.forall_mem_cons.mpr ⟨lw_p33, List.forall_mem_cons.mpr ⟨lw_p34, List.forall_mem_cons.mpr ⟨lw_p35, List.forall_mem_cons.mpr ⟨lw_p36, List.forall_mem_cons.mpr ⟨lw_p37, List.forall_mem_cons.mpr ⟨lw_p38, List.forall_mem_cons.mpr ⟨lw_p39, List.forall_mem_cons.mpr ⟨lw_p40, List.forall_mem_cons.mpr ⟨lw_p41, List.forall_mem_cons.mpr ⟨lw_p42, List.forall_mem_cons.mpr ⟨lw_p43, List.forall_mem_cons.mpr ⟨lw_p44, List.forall_mem_cons.mpr ⟨lw_p45, List.forall_mem_cons.mpr ⟨lw_p46, List.forall_mem_cons.mpr ⟨lw_p47, fun _ h => absurd h List.not_mem_nil⟩⟩⟩⟩⟩⟩⟩⟩⟩⟩⟩⟩⟩⟩⟩⟩
set_option maxRecDepth 20000 in
theorem lw_p48 : lw_okq (⟨"BallPots$Reckoner", "addAhead", "(LBallPots$Chances;LBallPots$Tree;IJ)V"⟩, 10) := ⟨⟨by decide +kernel, by decide +kernel⟩, List.mem_of_getElem? (i := 320) (Eq.refl _), List.mem_of_getElem? (i := 1371) (Eq.refl _), List.mem_of_getElem? (i := 1372) (Eq.refl _)⟩
set_option maxRecDepth 20000 in
theorem lw_p49 : lw_okq (⟨"BallPots", "farthest", "(LBallPots$Chances;LBallPots$Chances;)I"⟩, 18) := ⟨⟨by decide +kernel, by decide +kernel⟩, List.mem_of_getElem? (i := 32) (Eq.refl _), List.mem_of_getElem? (i := 1422) (Eq.refl _), List.mem_of_getElem? (i := 1423) (Eq.refl _)⟩
set_option maxRecDepth 20000 in
theorem lw_p50 : lw_okq (⟨"BallPots", "sizeOfFarthest", "(LBallPots$Chances;LBallPots$Chances;)J"⟩, 18) := ⟨⟨by decide +kernel, by decide +kernel⟩, List.mem_of_getElem? (i := 32) (Eq.refl _), List.mem_of_getElem? (i := 1437) (Eq.refl _), List.mem_of_getElem? (i := 1438) (Eq.refl _)⟩
set_option maxRecDepth 20000 in
theorem lw_p51 : lw_okq (⟨"BallPots", "sumOfFar", "(LBallPots$Chances;LBallPots$Chances;)J"⟩, 18) := ⟨⟨by decide +kernel, by decide +kernel⟩, List.mem_of_getElem? (i := 32) (Eq.refl _), List.mem_of_getElem? (i := 1441) (Eq.refl _), List.mem_of_getElem? (i := 1442) (Eq.refl _)⟩
set_option maxRecDepth 20000 in
theorem lw_p52 : lw_okq (⟨"BallPots", "findNearest", "(IZLBallPots$Chances;)I"⟩, 18) := ⟨⟨by decide +kernel, by decide +kernel⟩, List.mem_of_getElem? (i := 32) (Eq.refl _), List.mem_of_getElem? (i := 1449) (Eq.refl _), List.mem_of_getElem? (i := 1450) (Eq.refl _)⟩
set_option maxRecDepth 20000 in
theorem lw_p53 : lw_okq (⟨"BallPots", "likeAnEarlierOne", "([I)Z"⟩, 18) := ⟨⟨by decide +kernel, by decide +kernel⟩, List.mem_of_getElem? (i := 32) (Eq.refl _), List.mem_of_getElem? (i := 1455) (Eq.refl _), List.mem_of_getElem? (i := 1456) (Eq.refl _)⟩
set_option maxRecDepth 20000 in
theorem lw_p54 : lw_okq (⟨"BallPots", "apartByOrder", "([ILBallPots$Chances;)J"⟩, 18) := ⟨⟨by decide +kernel, by decide +kernel⟩, List.mem_of_getElem? (i := 32) (Eq.refl _), List.mem_of_getElem? (i := 1463) (Eq.refl _), List.mem_of_getElem? (i := 1464) (Eq.refl _)⟩
set_option maxRecDepth 20000 in
theorem lw_p55 : lw_okq (⟨"BallPots", "apartByArrangement", "([ILBallPots$Chances;)J"⟩, 18) := ⟨⟨by decide +kernel, by decide +kernel⟩, List.mem_of_getElem? (i := 32) (Eq.refl _), List.mem_of_getElem? (i := 1467) (Eq.refl _), List.mem_of_getElem? (i := 1468) (Eq.refl _)⟩
set_option maxRecDepth 20000 in
theorem lw_p56 : lw_okq (⟨"BallPots$BarTable", "refresh", "()V"⟩, 5) := ⟨⟨by decide +kernel, by decide +kernel⟩, List.mem_of_getElem? (i := 410) (Eq.refl _), List.mem_of_getElem? (i := 1489) (Eq.refl _), List.mem_of_getElem? (i := 1490) (Eq.refl _)⟩
set_option maxRecDepth 20000 in
theorem lw_p57 : lw_okq (⟨"BallPots$BarTable", "addDraw", "(II)V"⟩, 5) := ⟨⟨by decide +kernel, by decide +kernel⟩, List.mem_of_getElem? (i := 410) (Eq.refl _), List.mem_of_getElem? (i := 1502) (Eq.refl _), List.mem_of_getElem? (i := 1503) (Eq.refl _)⟩
set_option maxRecDepth 20000 in
theorem lw_p58 : lw_okq (⟨"BallPots$Swaps", "findParts", "()V"⟩, 10) := ⟨⟨by decide +kernel, by decide +kernel⟩, List.mem_of_getElem? (i := 433) (Eq.refl _), List.mem_of_getElem? (i := 1528) (Eq.refl _), List.mem_of_getElem? (i := 1529) (Eq.refl _)⟩
set_option maxRecDepth 20000 in
theorem lw_p59 : lw_okq (⟨"BallPots$Swaps", "clearRows", "()V"⟩, 10) := ⟨⟨by decide +kernel, by decide +kernel⟩, List.mem_of_getElem? (i := 433) (Eq.refl _), List.mem_of_getElem? (i := 1532) (Eq.refl _), List.mem_of_getElem? (i := 1533) (Eq.refl _)⟩
set_option maxRecDepth 20000 in
theorem lw_p60 : lw_okq (⟨"BallPots$Swaps", "sizeOfPart", "(I)I"⟩, 10) := ⟨⟨by decide +kernel, by decide +kernel⟩, List.mem_of_getElem? (i := 433) (Eq.refl _), List.mem_of_getElem? (i := 1537) (Eq.refl _), List.mem_of_getElem? (i := 1538) (Eq.refl _)⟩
set_option maxRecDepth 20000 in
theorem lw_p61 : lw_okq (⟨"BallPots$Swaps", "meet", "(I)V"⟩, 10) := ⟨⟨by decide +kernel, by decide +kernel⟩, List.mem_of_getElem? (i := 433) (Eq.refl _), List.mem_of_getElem? (i := 1541) (Eq.refl _), List.mem_of_getElem? (i := 1542) (Eq.refl _)⟩
set_option maxRecDepth 20000 in
theorem lw_p62 : lw_okq (⟨"BallPots$Swaps", "meetSwapped", "(I)V"⟩, 10) := ⟨⟨by decide +kernel, by decide +kernel⟩, List.mem_of_getElem? (i := 433) (Eq.refl _), List.mem_of_getElem? (i := 1545) (Eq.refl _), List.mem_of_getElem? (i := 1546) (Eq.refl _)⟩
set_option maxRecDepth 20000 in
theorem lw_p63 : lw_okq (⟨"BallPots$Swaps", "swapTimes", "(I)V"⟩, 10) := ⟨⟨by decide +kernel, by decide +kernel⟩, List.mem_of_getElem? (i := 433) (Eq.refl _), List.mem_of_getElem? (i := 1567) (Eq.refl _), List.mem_of_getElem? (i := 1568) (Eq.refl _)⟩
def lw_privs_4 : List (MethodName × Nat) := [(⟨"BallPots$Reckoner", "addAhead", "(LBallPots$Chances;LBallPots$Tree;IJ)V"⟩, 10), (⟨"BallPots", "farthest", "(LBallPots$Chances;LBallPots$Chances;)I"⟩, 18), (⟨"BallPots", "sizeOfFarthest", "(LBallPots$Chances;LBallPots$Chances;)J"⟩, 18), (⟨"BallPots", "sumOfFar", "(LBallPots$Chances;LBallPots$Chances;)J"⟩, 18), (⟨"BallPots", "findNearest", "(IZLBallPots$Chances;)I"⟩, 18), (⟨"BallPots", "likeAnEarlierOne", "([I)Z"⟩, 18), (⟨"BallPots", "apartByOrder", "([ILBallPots$Chances;)J"⟩, 18), (⟨"BallPots", "apartByArrangement", "([ILBallPots$Chances;)J"⟩, 18), (⟨"BallPots$BarTable", "refresh", "()V"⟩, 5), (⟨"BallPots$BarTable", "addDraw", "(II)V"⟩, 5), (⟨"BallPots$Swaps", "findParts", "()V"⟩, 10), (⟨"BallPots$Swaps", "clearRows", "()V"⟩, 10), (⟨"BallPots$Swaps", "sizeOfPart", "(I)I"⟩, 10), (⟨"BallPots$Swaps", "meet", "(I)V"⟩, 10), (⟨"BallPots$Swaps", "meetSwapped", "(I)V"⟩, 10), (⟨"BallPots$Swaps", "swapTimes", "(I)V"⟩, 10)]
theorem lw_r4 : ∀ q ∈ lw_privs_4, lw_okq q := List.forall_mem_cons.mpr ⟨lw_p48, List.forall_mem_cons.mpr ⟨lw_p49, List.forall_mem_cons.mpr ⟨lw_p50, List.forall_mem_cons.mpr ⟨lw_p51, List.forall_mem_cons.mpr ⟨lw_p52, List.forall_mem_cons.mpr ⟨lw_p53, List.forall_mem_cons.mpr ⟨lw_p54, List.forall_mem_cons.mpr ⟨lw_p55, List.forall_mem_cons.mpr ⟨lw_p56, List.forall_mem_cons.mpr ⟨lw_p57, List.forall_mem_cons.mpr ⟨lw_p58, List.forall_mem_cons.mpr ⟨lw_p59, List.forall_mem_cons.mpr ⟨lw_p60, List.forall_mem_cons.mpr ⟨lw_p61, List.forall_mem_cons.mpr ⟨lw_p62, List.forall_mem_cons.mpr ⟨lw_p63, fun _ h => absurd h List.not_mem_nil⟩⟩⟩⟩⟩⟩⟩⟩⟩⟩⟩⟩⟩⟩⟩⟩
set_option maxRecDepth 20000 in
theorem lw_p64 : lw_okq (⟨"BallPots$Swaps", "swapOnce", "()V"⟩, 10) := ⟨⟨by decide +kernel, by decide +kernel⟩, List.mem_of_getElem? (i := 433) (Eq.refl _), List.mem_of_getElem? (i := 1571) (Eq.refl _), List.mem_of_getElem? (i := 1572) (Eq.refl _)⟩
set_option maxRecDepth 20000 in
theorem lw_p65 : lw_okq (⟨"BallPots$Swaps", "pass", "(II)V"⟩, 10) := ⟨⟨by decide +kernel, by decide +kernel⟩, List.mem_of_getElem? (i := 433) (Eq.refl _), List.mem_of_getElem? (i := 1575) (Eq.refl _), List.mem_of_getElem? (i := 1576) (Eq.refl _)⟩
set_option maxRecDepth 20000 in
theorem lw_p66 : lw_okq (⟨"BallPotsModel", "plain", "()V"⟩, 66) := ⟨⟨by decide +kernel, by decide +kernel⟩, List.mem_of_getElem? (i := 1654) (Eq.refl _), List.mem_of_getElem? (i := 1661) (Eq.refl _), List.mem_of_getElem? (i := 1662) (Eq.refl _)⟩
set_option maxRecDepth 20000 in
theorem lw_p67 : lw_okq (⟨"BallPotsModel", "keep", "()V"⟩, 66) := ⟨⟨by decide +kernel, by decide +kernel⟩, List.mem_of_getElem? (i := 1654) (Eq.refl _), List.mem_of_getElem? (i := 1665) (Eq.refl _), List.mem_of_getElem? (i := 1666) (Eq.refl _)⟩
set_option maxRecDepth 20000 in
theorem lw_p68 : lw_okq (⟨"BallPotsModel", "layRows", "()V"⟩, 66) := ⟨⟨by decide +kernel, by decide +kernel⟩, List.mem_of_getElem? (i := 1654) (Eq.refl _), List.mem_of_getElem? (i := 1669) (Eq.refl _), List.mem_of_getElem? (i := 1670) (Eq.refl _)⟩
set_option maxRecDepth 20000 in
theorem lw_p69 : lw_okq (⟨"BallPotsModel", "layDraws", "()V"⟩, 66) := ⟨⟨by decide +kernel, by decide +kernel⟩, List.mem_of_getElem? (i := 1654) (Eq.refl _), List.mem_of_getElem? (i := 1673) (Eq.refl _), List.mem_of_getElem? (i := 1674) (Eq.refl _)⟩
set_option maxRecDepth 20000 in
theorem lw_p70 : lw_okq (⟨"BallPotsModel", "rankIn", "(II)I"⟩, 66) := ⟨⟨by decide +kernel, by decide +kernel⟩, List.mem_of_getElem? (i := 1654) (Eq.refl _), List.mem_of_getElem? (i := 1677) (Eq.refl _), List.mem_of_getElem? (i := 1678) (Eq.refl _)⟩
set_option maxRecDepth 20000 in
theorem lw_p71 : lw_okq (⟨"BallPotsModel", "isBroken", "(II)Z"⟩, 66) := ⟨⟨by decide +kernel, by decide +kernel⟩, List.mem_of_getElem? (i := 1654) (Eq.refl _), List.mem_of_getElem? (i := 1681) (Eq.refl _), List.mem_of_getElem? (i := 1682) (Eq.refl _)⟩
set_option maxRecDepth 20000 in
theorem lw_p72 : lw_okq (⟨"BallPotsModel", "teams", "()I"⟩, 66) := ⟨⟨by decide +kernel, by decide +kernel⟩, List.mem_of_getElem? (i := 1654) (Eq.refl _), List.mem_of_getElem? (i := 1685) (Eq.refl _), List.mem_of_getElem? (i := 1686) (Eq.refl _)⟩
set_option maxRecDepth 20000 in
theorem lw_p73 : lw_okq (⟨"BallPotsModel", "take", "()V"⟩, 66) := ⟨⟨by decide +kernel, by decide +kernel⟩, List.mem_of_getElem? (i := 1654) (Eq.refl _), List.mem_of_getElem? (i := 1897) (Eq.refl _), List.mem_of_getElem? (i := 1898) (Eq.refl _)⟩
set_option maxRecDepth 20000 in
theorem lw_p74 : lw_okq (⟨"BallPotsModel", "isSmall", "(I)Z"⟩, 66) := ⟨⟨by decide +kernel, by decide +kernel⟩, List.mem_of_getElem? (i := 1654) (Eq.refl _), List.mem_of_getElem? (i := 1901) (Eq.refl _), List.mem_of_getElem? (i := 1902) (Eq.refl _)⟩
set_option maxRecDepth 20000 in
theorem lw_p75 : lw_okq (⟨"BallPotsModel", "wordAt", "(II)I"⟩, 66) := ⟨⟨by decide +kernel, by decide +kernel⟩, List.mem_of_getElem? (i := 1654) (Eq.refl _), List.mem_of_getElem? (i := 1905) (Eq.refl _), List.mem_of_getElem? (i := 1906) (Eq.refl _)⟩
set_option maxRecDepth 20000 in
theorem lw_p76 : lw_okq (⟨"BallPotsModel", "packed", "(II)I"⟩, 66) := ⟨⟨by decide +kernel, by decide +kernel⟩, List.mem_of_getElem? (i := 1654) (Eq.refl _), List.mem_of_getElem? (i := 1909) (Eq.refl _), List.mem_of_getElem? (i := 1910) (Eq.refl _)⟩
set_option maxRecDepth 20000 in
theorem lw_p77 : lw_okq (⟨"BallPotsModel", "isDigit", "(I)Z"⟩, 66) := ⟨⟨by decide +kernel, by decide +kernel⟩, List.mem_of_getElem? (i := 1654) (Eq.refl _), List.mem_of_getElem? (i := 1913) (Eq.refl _), List.mem_of_getElem? (i := 1914) (Eq.refl _)⟩
set_option maxRecDepth 20000 in
theorem lw_p78 : lw_okq (⟨"BallPotsModel", "lineRead", "(Z)Z"⟩, 66) := ⟨⟨by decide +kernel, by decide +kernel⟩, List.mem_of_getElem? (i := 1654) (Eq.refl _), List.mem_of_getElem? (i := 1917) (Eq.refl _), List.mem_of_getElem? (i := 1918) (Eq.refl _)⟩
set_option maxRecDepth 20000 in
theorem lw_p79 : lw_okq (⟨"BallPotsModel", "wrong", "(I)Z"⟩, 66) := ⟨⟨by decide +kernel, by decide +kernel⟩, List.mem_of_getElem? (i := 1654) (Eq.refl _), List.mem_of_getElem? (i := 1921) (Eq.refl _), List.mem_of_getElem? (i := 1922) (Eq.refl _)⟩
def lw_privs_5 : List (MethodName × Nat) := [(⟨"BallPots$Swaps", "swapOnce", "()V"⟩, 10), (⟨"BallPots$Swaps", "pass", "(II)V"⟩, 10), (⟨"BallPotsModel", "plain", "()V"⟩, 66), (⟨"BallPotsModel", "keep", "()V"⟩, 66), (⟨"BallPotsModel", "layRows", "()V"⟩, 66), (⟨"BallPotsModel", "layDraws", "()V"⟩, 66), (⟨"BallPotsModel", "rankIn", "(II)I"⟩, 66), (⟨"BallPotsModel", "isBroken", "(II)Z"⟩, 66), (⟨"BallPotsModel", "teams", "()I"⟩, 66), (⟨"BallPotsModel", "take", "()V"⟩, 66), (⟨"BallPotsModel", "isSmall", "(I)Z"⟩, 66), (⟨"BallPotsModel", "wordAt", "(II)I"⟩, 66), (⟨"BallPotsModel", "packed", "(II)I"⟩, 66), (⟨"BallPotsModel", "isDigit", "(I)Z"⟩, 66), (⟨"BallPotsModel", "lineRead", "(Z)Z"⟩, 66), (⟨"BallPotsModel", "wrong", "(I)Z"⟩, 66)]
theorem lw_r5 : ∀ q ∈ lw_privs_5, lw_okq q := List.forall_mem_cons.mpr ⟨lw_p64, List.forall_mem_cons.mpr ⟨lw_p65, List.forall_mem_cons.mpr ⟨lw_p66, List.forall_mem_cons.mpr ⟨lw_p67, List.forall_mem_cons.mpr ⟨lw_p68, List.forall_mem_cons.mpr ⟨lw_p69, List.forall_mem_cons.mpr ⟨lw_p70, List.forall_mem_cons.mpr ⟨lw_p71, List.forall_mem_cons.mpr ⟨lw_p72, List.forall_mem_cons.mpr ⟨lw_p73, List.forall_mem_cons.mpr ⟨lw_p74, List.forall_mem_cons.mpr ⟨lw_p75, List.forall_mem_cons.mpr ⟨lw_p76, List.forall_mem_cons.mpr ⟨lw_p77, List.forall_mem_cons.mpr ⟨lw_p78, List.forall_mem_cons.mpr ⟨lw_p79, fun _ h => absurd h List.not_mem_nil⟩⟩⟩⟩⟩⟩⟩⟩⟩⟩⟩⟩⟩⟩⟩⟩
set_option maxRecDepth 20000 in
theorem lw_p80 : lw_okq (⟨"BallPotsModel", "isNumber", "(II)Z"⟩, 66) := ⟨⟨by decide +kernel, by decide +kernel⟩, List.mem_of_getElem? (i := 1654) (Eq.refl _), List.mem_of_getElem? (i := 1925) (Eq.refl _), List.mem_of_getElem? (i := 1926) (Eq.refl _)⟩
set_option maxRecDepth 20000 in
theorem lw_p81 : lw_okq (⟨"BallPotsModel", "potRead", "()Z"⟩, 66) := ⟨⟨by decide +kernel, by decide +kernel⟩, List.mem_of_getElem? (i := 1654) (Eq.refl _), List.mem_of_getElem? (i := 1929) (Eq.refl _), List.mem_of_getElem? (i := 1930) (Eq.refl _)⟩
set_option maxRecDepth 20000 in
theorem lw_p82 : lw_okq (⟨"BallPotsModel", "teamOf", "(I)I"⟩, 66) := ⟨⟨by decide +kernel, by decide +kernel⟩, List.mem_of_getElem? (i := 1654) (Eq.refl _), List.mem_of_getElem? (i := 1933) (Eq.refl _), List.mem_of_getElem? (i := 1934) (Eq.refl _)⟩
set_option maxRecDepth 20000 in
theorem lw_p83 : lw_okq (⟨"BallPotsModel", "markLine", "()Z"⟩, 66) := ⟨⟨by decide +kernel, by decide +kernel⟩, List.mem_of_getElem? (i := 1654) (Eq.refl _), List.mem_of_getElem? (i := 1937) (Eq.refl _), List.mem_of_getElem? (i := 1938) (Eq.refl _)⟩
set_option maxRecDepth 20000 in
theorem lw_p84 : lw_okq (⟨"BallPotsModel", "markOf", "(I)I"⟩, 66) := ⟨⟨by decide +kernel, by decide +kernel⟩, List.mem_of_getElem? (i := 1654) (Eq.refl _), List.mem_of_getElem? (i := 1941) (Eq.refl _), List.mem_of_getElem? (i := 1942) (Eq.refl _)⟩
set_option maxRecDepth 20000 in
theorem lw_p85 : lw_okq (⟨"BallPotsModel", "barLine", "(I)Z"⟩, 66) := ⟨⟨by decide +kernel, by decide +kernel⟩, List.mem_of_getElem? (i := 1654) (Eq.refl _), List.mem_of_getElem? (i := 1945) (Eq.refl _), List.mem_of_getElem? (i := 1946) (Eq.refl _)⟩
set_option maxRecDepth 20000 in
theorem lw_p86 : lw_okq (⟨"BallPotsModel", "lawfulBut", "(I)I"⟩, 66) := ⟨⟨by decide +kernel, by decide +kernel⟩, List.mem_of_getElem? (i := 1654) (Eq.refl _), List.mem_of_getElem? (i := 1968) (Eq.refl _), List.mem_of_getElem? (i := 1969) (Eq.refl _)⟩
set_option maxRecDepth 20000 in
theorem lw_p87 : lw_okq (⟨"BallPotsModel", "fewest", "()I"⟩, 66) := ⟨⟨by decide +kernel, by decide +kernel⟩, List.mem_of_getElem? (i := 1654) (Eq.refl _), List.mem_of_getElem? (i := 1976) (Eq.refl _), List.mem_of_getElem? (i := 1977) (Eq.refl _)⟩
set_option maxRecDepth 20000 in
theorem lw_p88 : lw_okq (⟨"BallPotsModel", "isTeam", "(I)Z"⟩, 66) := ⟨⟨by decide +kernel, by decide +kernel⟩, List.mem_of_getElem? (i := 1654) (Eq.refl _), List.mem_of_getElem? (i := 1987) (Eq.refl _), List.mem_of_getElem? (i := 1988) (Eq.refl _)⟩
set_option maxRecDepth 20000 in
theorem lw_p89 : lw_okq (⟨"BallPotsModel", "placedIn", "(II)I"⟩, 66) := ⟨⟨by decide +kernel, by decide +kernel⟩, List.mem_of_getElem? (i := 1654) (Eq.refl _), List.mem_of_getElem? (i := 2010) (Eq.refl _), List.mem_of_getElem? (i := 2011) (Eq.refl _)⟩
set_option maxRecDepth 20000 in
theorem lw_p90 : lw_okq (⟨"BallPotsModel", "shut", "(III)I"⟩, 66) := ⟨⟨by decide +kernel, by decide +kernel⟩, List.mem_of_getElem? (i := 1654) (Eq.refl _), List.mem_of_getElem? (i := 2014) (Eq.refl _), List.mem_of_getElem? (i := 2015) (Eq.refl _)⟩
set_option maxRecDepth 20000 in
theorem lw_p91 : lw_okq (⟨"BallPotsModel", "isAsPlaced", "(II)Z"⟩, 66) := ⟨⟨by decide +kernel, by decide +kernel⟩, List.mem_of_getElem? (i := 1654) (Eq.refl _), List.mem_of_getElem? (i := 2018) (Eq.refl _), List.mem_of_getElem? (i := 2019) (Eq.refl _)⟩
set_option maxRecDepth 20000 in
theorem lw_p92 : lw_okq (⟨"BallPotsModel", "whyOf", "(I)I"⟩, 66) := ⟨⟨by decide +kernel, by decide +kernel⟩, List.mem_of_getElem? (i := 1654) (Eq.refl _), List.mem_of_getElem? (i := 2026) (Eq.refl _), List.mem_of_getElem? (i := 2027) (Eq.refl _)⟩
set_option maxRecDepth 20000 in
theorem lw_p93 : lw_okq (⟨"BallPotsModel", "layStage", "(I)V"⟩, 66) := ⟨⟨by decide +kernel, by decide +kernel⟩, List.mem_of_getElem? (i := 1654) (Eq.refl _), List.mem_of_getElem? (i := 2058) (Eq.refl _), List.mem_of_getElem? (i := 2059) (Eq.refl _)⟩
set_option maxRecDepth 20000 in
theorem lw_p94 : lw_okq (⟨"BallPotsModel", "turnsAs", "()V"⟩, 66) := ⟨⟨by decide +kernel, by decide +kernel⟩, List.mem_of_getElem? (i := 1654) (Eq.refl _), List.mem_of_getElem? (i := 2062) (Eq.refl _), List.mem_of_getElem? (i := 2063) (Eq.refl _)⟩
set_option maxRecDepth 20000 in
theorem lw_p95 : lw_okq (⟨"BallPotsModel", "layWeights", "(IZ)V"⟩, 66) := ⟨⟨by decide +kernel, by decide +kernel⟩, List.mem_of_getElem? (i := 1654) (Eq.refl _), List.mem_of_getElem? (i := 2066) (Eq.refl _), List.mem_of_getElem? (i := 2067) (Eq.refl _)⟩
def lw_privs_6 : List (MethodName × Nat) := [(⟨"BallPotsModel", "isNumber", "(II)Z"⟩, 66), (⟨"BallPotsModel", "potRead", "()Z"⟩, 66), (⟨"BallPotsModel", "teamOf", "(I)I"⟩, 66), (⟨"BallPotsModel", "markLine", "()Z"⟩, 66), (⟨"BallPotsModel", "markOf", "(I)I"⟩, 66), (⟨"BallPotsModel", "barLine", "(I)Z"⟩, 66), (⟨"BallPotsModel", "lawfulBut", "(I)I"⟩, 66), (⟨"BallPotsModel", "fewest", "()I"⟩, 66), (⟨"BallPotsModel", "isTeam", "(I)Z"⟩, 66), (⟨"BallPotsModel", "placedIn", "(II)I"⟩, 66), (⟨"BallPotsModel", "shut", "(III)I"⟩, 66), (⟨"BallPotsModel", "isAsPlaced", "(II)Z"⟩, 66), (⟨"BallPotsModel", "whyOf", "(I)I"⟩, 66), (⟨"BallPotsModel", "layStage", "(I)V"⟩, 66), (⟨"BallPotsModel", "turnsAs", "()V"⟩, 66), (⟨"BallPotsModel", "layWeights", "(IZ)V"⟩, 66)]
theorem lw_r6 : ∀ q ∈ lw_privs_6, lw_okq q := List.forall_mem_cons.mpr ⟨lw_p80, List.forall_mem_cons.mpr ⟨lw_p81, List.forall_mem_cons.mpr ⟨lw_p82, List.forall_mem_cons.mpr ⟨lw_p83, List.forall_mem_cons.mpr ⟨lw_p84, List.forall_mem_cons.mpr ⟨lw_p85, List.forall_mem_cons.mpr ⟨lw_p86, List.forall_mem_cons.mpr ⟨lw_p87, List.forall_mem_cons.mpr ⟨lw_p88, List.forall_mem_cons.mpr ⟨lw_p89, List.forall_mem_cons.mpr ⟨lw_p90, List.forall_mem_cons.mpr ⟨lw_p91, List.forall_mem_cons.mpr ⟨lw_p92, List.forall_mem_cons.mpr ⟨lw_p93, List.forall_mem_cons.mpr ⟨lw_p94, List.forall_mem_cons.mpr ⟨lw_p95, fun _ h => absurd h List.not_mem_nil⟩⟩⟩⟩⟩⟩⟩⟩⟩⟩⟩⟩⟩⟩⟩⟩
set_option maxRecDepth 20000 in
theorem lw_p96 : lw_okq (⟨"BallPotsModel", "layMasks", "()V"⟩, 66) := ⟨⟨by decide +kernel, by decide +kernel⟩, List.mem_of_getElem? (i := 1654) (Eq.refl _), List.mem_of_getElem? (i := 2070) (Eq.refl _), List.mem_of_getElem? (i := 2071) (Eq.refl _)⟩
set_option maxRecDepth 20000 in
theorem lw_p97 : lw_okq (⟨"BallPotsModel", "placedPart", "(II)I"⟩, 66) := ⟨⟨by decide +kernel, by decide +kernel⟩, List.mem_of_getElem? (i := 1654) (Eq.refl _), List.mem_of_getElem? (i := 2074) (Eq.refl _), List.mem_of_getElem? (i := 2075) (Eq.refl _)⟩
set_option maxRecDepth 20000 in
theorem lw_p98 : lw_okq (⟨"BallPotsModel", "rankOf", "(I)I"⟩, 66) := ⟨⟨by decide +kernel, by decide +kernel⟩, List.mem_of_getElem? (i := 1654) (Eq.refl _), List.mem_of_getElem? (i := 2078) (Eq.refl _), List.mem_of_getElem? (i := 2079) (Eq.refl _)⟩
set_option maxRecDepth 20000 in
theorem lw_p99 : lw_okq (⟨"BallPotsModel", "agreeing", "(II)I"⟩, 66) := ⟨⟨by decide +kernel, by decide +kernel⟩, List.mem_of_getElem? (i := 1654) (Eq.refl _), List.mem_of_getElem? (i := 2082) (Eq.refl _), List.mem_of_getElem? (i := 2083) (Eq.refl _)⟩
set_option maxRecDepth 20000 in
theorem lw_p100 : lw_okq (⟨"BallPotsModel", "digit", "(II)I"⟩, 66) := ⟨⟨by decide +kernel, by decide +kernel⟩, List.mem_of_getElem? (i := 1654) (Eq.refl _), List.mem_of_getElem? (i := 2086) (Eq.refl _), List.mem_of_getElem? (i := 2087) (Eq.refl _)⟩
set_option maxRecDepth 20000 in
theorem lw_p101 : lw_okq (⟨"BallPotsModel", "pot", "(IIIZ)V"⟩, 66) := ⟨⟨by decide +kernel, by decide +kernel⟩, List.mem_of_getElem? (i := 1654) (Eq.refl _), List.mem_of_getElem? (i := 2090) (Eq.refl _), List.mem_of_getElem? (i := 2091) (Eq.refl _)⟩
set_option maxRecDepth 20000 in
theorem lw_p102 : lw_okq (⟨"BallPotsModel", "comes", "(IIIIZ)V"⟩, 66) := ⟨⟨by decide +kernel, by decide +kernel⟩, List.mem_of_getElem? (i := 1654) (Eq.refl _), List.mem_of_getElem? (i := 2094) (Eq.refl _), List.mem_of_getElem? (i := 2095) (Eq.refl _)⟩
set_option maxRecDepth 20000 in
theorem lw_p103 : lw_okq (⟨"BallPotsModel", "pairRows", "(II)J"⟩, 66) := ⟨⟨by decide +kernel, by decide +kernel⟩, List.mem_of_getElem? (i := 1654) (Eq.refl _), List.mem_of_getElem? (i := 2101) (Eq.refl _), List.mem_of_getElem? (i := 2102) (Eq.refl _)⟩
set_option maxRecDepth 20000 in
theorem lw_p104 : lw_okq (⟨"BallPotsModel", "allRows", "()J"⟩, 66) := ⟨⟨by decide +kernel, by decide +kernel⟩, List.mem_of_getElem? (i := 1654) (Eq.refl _), List.mem_of_getElem? (i := 2113) (Eq.refl _), List.mem_of_getElem? (i := 2114) (Eq.refl _)⟩
set_option maxRecDepth 20000 in
theorem lw_p105 : lw_okq (⟨"BallPotsModel", "layApart", "(II)V"⟩, 66) := ⟨⟨by decide +kernel, by decide +kernel⟩, List.mem_of_getElem? (i := 1654) (Eq.refl _), List.mem_of_getElem? (i := 2122) (Eq.refl _), List.mem_of_getElem? (i := 2123) (Eq.refl _)⟩
set_option maxRecDepth 20000 in
theorem lw_p106 : lw_okq (⟨"BallPotsModel", "put", "(III)I"⟩, 66) := ⟨⟨by decide +kernel, by decide +kernel⟩, List.mem_of_getElem? (i := 1654) (Eq.refl _), List.mem_of_getElem? (i := 2134) (Eq.refl _), List.mem_of_getElem? (i := 2135) (Eq.refl _)⟩
set_option maxRecDepth 20000 in
theorem lw_p107 : lw_okq (⟨"BallPotsModel", "putOne", "(III)I"⟩, 66) := ⟨⟨by decide +kernel, by decide +kernel⟩, List.mem_of_getElem? (i := 1654) (Eq.refl _), List.mem_of_getElem? (i := 2138) (Eq.refl _), List.mem_of_getElem? (i := 2139) (Eq.refl _)⟩
set_option maxRecDepth 20000 in
theorem lw_p108 : lw_okq (⟨"BallPotsModel", "isEven", "(II)Z"⟩, 66) := ⟨⟨by decide +kernel, by decide +kernel⟩, List.mem_of_getElem? (i := 1654) (Eq.refl _), List.mem_of_getElem? (i := 2150) (Eq.refl _), List.mem_of_getElem? (i := 2151) (Eq.refl _)⟩
set_option maxRecDepth 20000 in
theorem lw_p109 : lw_okq (⟨"BallPotsModel", "laySwaps", "()V"⟩, 66) := ⟨⟨by decide +kernel, by decide +kernel⟩, List.mem_of_getElem? (i := 1654) (Eq.refl _), List.mem_of_getElem? (i := 2159) (Eq.refl _), List.mem_of_getElem? (i := 2160) (Eq.refl _)⟩
set_option maxRecDepth 20000 in
theorem lw_p110 : lw_okq (⟨"BallPotsModel", "fills", "(II)I"⟩, 66) := ⟨⟨by decide +kernel, by decide +kernel⟩, List.mem_of_getElem? (i := 1654) (Eq.refl _), List.mem_of_getElem? (i := 2163) (Eq.refl _), List.mem_of_getElem? (i := 2164) (Eq.refl _)⟩
set_option maxRecDepth 20000 in
theorem lw_p111 : lw_okq (⟨"BallPotsModel", "swapped", "(IIII)I"⟩, 66) := ⟨⟨by decide +kernel, by decide +kernel⟩, List.mem_of_getElem? (i := 1654) (Eq.refl _), List.mem_of_getElem? (i := 2167) (Eq.refl _), List.mem_of_getElem? (i := 2168) (Eq.refl _)⟩
def lw_privs_7 : List (MethodName × Nat) := [(⟨"BallPotsModel", "layMasks", "()V"⟩, 66), (⟨"BallPotsModel", "placedPart", "(II)I"⟩, 66), (⟨"BallPotsModel", "rankOf", "(I)I"⟩, 66), (⟨"BallPotsModel", "agreeing", "(II)I"⟩, 66), (⟨"BallPotsModel", "digit", "(II)I"⟩, 66), (⟨"BallPotsModel", "pot", "(IIIZ)V"⟩, 66), (⟨"BallPotsModel", "comes", "(IIIIZ)V"⟩, 66), (⟨"BallPotsModel", "pairRows", "(II)J"⟩, 66), (⟨"BallPotsModel", "allRows", "()J"⟩, 66), (⟨"BallPotsModel", "layApart", "(II)V"⟩, 66), (⟨"BallPotsModel", "put", "(III)I"⟩, 66), (⟨"BallPotsModel", "putOne", "(III)I"⟩, 66), (⟨"BallPotsModel", "isEven", "(II)Z"⟩, 66), (⟨"BallPotsModel", "laySwaps", "()V"⟩, 66), (⟨"BallPotsModel", "fills", "(II)I"⟩, 66), (⟨"BallPotsModel", "swapped", "(IIII)I"⟩, 66)]
theorem lw_r7 : ∀ q ∈ lw_privs_7, lw_okq q := List.forall_mem_cons.mpr ⟨lw_p96, List.forall_mem_cons.mpr ⟨lw_p97, List.forall_mem_cons.mpr ⟨lw_p98, List.forall_mem_cons.mpr ⟨lw_p99, List.forall_mem_cons.mpr ⟨lw_p100, List.forall_mem_cons.mpr ⟨lw_p101, List.forall_mem_cons.mpr ⟨lw_p102, List.forall_mem_cons.mpr ⟨lw_p103, List.forall_mem_cons.mpr ⟨lw_p104, List.forall_mem_cons.mpr ⟨lw_p105, List.forall_mem_cons.mpr ⟨lw_p106, List.forall_mem_cons.mpr ⟨lw_p107, List.forall_mem_cons.mpr ⟨lw_p108, List.forall_mem_cons.mpr ⟨lw_p109, List.forall_mem_cons.mpr ⟨lw_p110, List.forall_mem_cons.mpr ⟨lw_p111, fun _ h => absurd h List.not_mem_nil⟩⟩⟩⟩⟩⟩⟩⟩⟩⟩⟩⟩⟩⟩⟩⟩
set_option maxRecDepth 20000 in
theorem lw_p112 : lw_okq (⟨"BallPotsModel", "mixes", "(I)V"⟩, 66) := ⟨⟨by decide +kernel, by decide +kernel⟩, List.mem_of_getElem? (i := 1654) (Eq.refl _), List.mem_of_getElem? (i := 2175) (Eq.refl _), List.mem_of_getElem? (i := 2176) (Eq.refl _)⟩
set_option maxRecDepth 20000 in
theorem lw_p113 : lw_okq (⟨"BallPotsModel", "mixesOne", "(I)V"⟩, 66) := ⟨⟨by decide +kernel, by decide +kernel⟩, List.mem_of_getElem? (i := 1654) (Eq.refl _), List.mem_of_getElem? (i := 2179) (Eq.refl _), List.mem_of_getElem? (i := 2180) (Eq.refl _)⟩
set_option maxRecDepth 20000 in
theorem lw_p114 : lw_okq (⟨"BallPotsModel", "fails", "(I)I"⟩, 66) := ⟨⟨by decide +kernel, by decide +kernel⟩, List.mem_of_getElem? (i := 1654) (Eq.refl _), List.mem_of_getElem? (i := 2207) (Eq.refl _), List.mem_of_getElem? (i := 2208) (Eq.refl _)⟩
def lw_privs_8 : List (MethodName × Nat) := [(⟨"BallPotsModel", "mixes", "(I)V"⟩, 66), (⟨"BallPotsModel", "mixesOne", "(I)V"⟩, 66), (⟨"BallPotsModel", "fails", "(I)I"⟩, 66)]
theorem lw_r8 : ∀ q ∈ lw_privs_8, lw_okq q := List.forall_mem_cons.mpr ⟨lw_p112, List.forall_mem_cons.mpr ⟨lw_p113, List.forall_mem_cons.mpr ⟨lw_p114, fun _ h => absurd h List.not_mem_nil⟩⟩⟩
def lw_privs : List (MethodName × Nat) := lw_privs_1 ++ (lw_privs_2 ++ (lw_privs_3 ++ (lw_privs_4 ++ (lw_privs_5 ++ (lw_privs_6 ++ (lw_privs_7 ++ (lw_privs_8)))))))
def lw_tbl : List Cond := k2_sels lw_privs ++ tables_1
theorem lw_privs_ok : ∀ q ∈ lw_privs, lw_okq q := by
  show ∀ q ∈ lw_privs_1 ++ (lw_privs_2 ++ (lw_privs_3 ++ (lw_privs_4 ++ (lw_privs_5 ++ (lw_privs_6 ++ (lw_privs_7 ++ (lw_privs_8))))))), lw_okq q
  exact List.forall_mem_append.mpr ⟨lw_r1, List.forall_mem_append.mpr ⟨lw_r2, List.forall_mem_append.mpr ⟨lw_r3, List.forall_mem_append.mpr ⟨lw_r4, List.forall_mem_append.mpr ⟨lw_r5, List.forall_mem_append.mpr ⟨lw_r6, List.forall_mem_append.mpr ⟨lw_r7, lw_r8⟩⟩⟩⟩⟩⟩⟩
