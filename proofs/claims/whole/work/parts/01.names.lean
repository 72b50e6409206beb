-- ===== PART A: goes FIRST, ahead of the names: the tables' words, and 'selects' of the private methods out of them =====
/-- a private method of a class that the tables say can be made, by its rows of tables_1 -/
def lw_okq (q : MethodName × Nat) : Prop := (q.1.cls ≠ "java/lang/invoke/MethodHandle" ∧ q.1.cls ≠ "java/lang/invoke/VarHandle") ∧ Cond.instantiable q.1.cls q.2 ∈ tables_1 ∧ Cond.privateMethod q.1 ∈ tables_1 ∧ Cond.instanceMethod q.1 ∈ tables_1
theorem lw_p0 : lw_okq (⟨"BandEngraver$Text", "errorInWord", "(IZ)I"⟩, 2) := ⟨⟨by decide +kernel, by decide +kernel⟩, List.mem_of_getElem? (i := 27) (by decide +kernel), List.mem_of_getElem? (i := 266) (by decide +kernel), List.mem_of_getElem? (i := 267) (by decide +kernel)⟩
theorem lw_p1 : lw_okq (⟨"BandEngraver$Text", "isDigitAllowed", "(III)Z"⟩, 2) := ⟨⟨by decide +kernel, by decide +kernel⟩, List.mem_of_getElem? (i := 27) (by decide +kernel), List.mem_of_getElem? (i := 284) (by decide +kernel), List.mem_of_getElem? (i := 285) (by decide +kernel)⟩
theorem lw_p2 : lw_okq (⟨"BandEngraver", "present", "()LBandEngraver$Islands;"⟩, 13) := ⟨⟨by decide +kernel, by decide +kernel⟩, List.mem_of_getElem? (i := 19) (by decide +kernel), List.mem_of_getElem? (i := 305) (by decide +kernel), List.mem_of_getElem? (i := 306) (by decide +kernel)⟩
theorem lw_p3 : lw_okq (⟨"BandEngraver$Islands", "gather", "(I)V"⟩, 11) := ⟨⟨by decide +kernel, by decide +kernel⟩, List.mem_of_getElem? (i := 116) (by decide +kernel), List.mem_of_getElem? (i := 321) (by decide +kernel), List.mem_of_getElem? (i := 322) (by decide +kernel)⟩
theorem lw_p4 : lw_okq (⟨"BandEngraver$Islands", "enqueue", "(II)I"⟩, 11) := ⟨⟨by decide +kernel, by decide +kernel⟩, List.mem_of_getElem? (i := 116) (by decide +kernel), List.mem_of_getElem? (i := 325) (by decide +kernel), List.mem_of_getElem? (i := 326) (by decide +kernel)⟩
theorem lw_p5 : lw_okq (⟨"BandEngraver$Islands", "neighbour", "(II)I"⟩, 11) := ⟨⟨by decide +kernel, by decide +kernel⟩, List.mem_of_getElem? (i := 116) (by decide +kernel), List.mem_of_getElem? (i := 332) (by decide +kernel), List.mem_of_getElem? (i := 333) (by decide +kernel)⟩
theorem lw_p6 : lw_okq (⟨"BandEngraver$Islands", "smallestBelow", "(I)I"⟩, 11) := ⟨⟨by decide +kernel, by decide +kernel⟩, List.mem_of_getElem? (i := 116) (by decide +kernel), List.mem_of_getElem? (i := 340) (by decide +kernel), List.mem_of_getElem? (i := 341) (by decide +kernel)⟩
theorem lw_p7 : lw_okq (⟨"BandEngraver$Islands", "takerOf", "(I)I"⟩, 11) := ⟨⟨by decide +kernel, by decide +kernel⟩, List.mem_of_getElem? (i := 116) (by decide +kernel), List.mem_of_getElem? (i := 344) (by decide +kernel), List.mem_of_getElem? (i := 345) (by decide +kernel)⟩
theorem lw_p8 : lw_okq (⟨"BandEngraver$Islands", "measureBorders", "(I)V"⟩, 11) := ⟨⟨by decide +kernel, by decide +kernel⟩, List.mem_of_getElem? (i := 116) (by decide +kernel), List.mem_of_getElem? (i := 348) (by decide +kernel), List.mem_of_getElem? (i := 349) (by decide +kernel)⟩
theorem lw_p9 : lw_okq (⟨"BandEngraver$Islands", "isBetterTaker", "(III)Z"⟩, 11) := ⟨⟨by decide +kernel, by decide +kernel⟩, List.mem_of_getElem? (i := 116) (by decide +kernel), List.mem_of_getElem? (i := 353) (by decide +kernel), List.mem_of_getElem? (i := 354) (by decide +kernel)⟩
theorem lw_p10 : lw_okq (⟨"BandEngraver$Islands", "giveNumbers", "()V"⟩, 11) := ⟨⟨by decide +kernel, by decide +kernel⟩, List.mem_of_getElem? (i := 116) (by decide +kernel), List.mem_of_getElem? (i := 360) (by decide +kernel), List.mem_of_getElem? (i := 361) (by decide +kernel)⟩
theorem lw_p11 : lw_okq (⟨"BandEngraver", "beginAction", "()V"⟩, 13) := ⟨⟨by decide +kernel, by decide +kernel⟩, List.mem_of_getElem? (i := 19) (by decide +kernel), List.mem_of_getElem? (i := 380) (by decide +kernel), List.mem_of_getElem? (i := 381) (by decide +kernel)⟩
theorem lw_p12 : lw_okq (⟨"BandEngraver", "forgetFindings", "()V"⟩, 13) := ⟨⟨by decide +kernel, by decide +kernel⟩, List.mem_of_getElem? (i := 19) (by decide +kernel), List.mem_of_getElem? (i := 396) (by decide +kernel), List.mem_of_getElem? (i := 397) (by decide +kernel)⟩
theorem lw_p13 : lw_okq (⟨"BandEngraver$State", "blurredGrey", "([III)I"⟩, 8) := ⟨⟨by decide +kernel, by decide +kernel⟩, List.mem_of_getElem? (i := 42) (by decide +kernel), List.mem_of_getElem? (i := 404) (by decide +kernel), List.mem_of_getElem? (i := 405) (by decide +kernel)⟩
theorem lw_p14 : lw_okq (⟨"java/lang/Throwable", "fillInStackTrace", "(I)Ljava/lang/Throwable;"⟩, 6) := ⟨⟨by decide +kernel, by decide +kernel⟩, List.mem_of_getElem? (i := 480) (by decide +kernel), List.mem_of_getElem? (i := 478) (by decide +kernel), List.mem_of_getElem? (i := 479) (by decide +kernel)⟩
theorem lw_p15 : lw_okq (⟨"BandEngraver", "obeysWord", "(I)Z"⟩, 13) := ⟨⟨by decide +kernel, by decide +kernel⟩, List.mem_of_getElem? (i := 19) (by decide +kernel), List.mem_of_getElem? (i := 550) (by decide +kernel), List.mem_of_getElem? (i := 551) (by decide +kernel)⟩
def lw_privs_1 : List (MethodName × Nat) := [(⟨"BandEngraver$Text", "errorInWord", "(IZ)I"⟩, 2), (⟨"BandEngraver$Text", "isDigitAllowed", "(III)Z"⟩, 2), (⟨"BandEngraver", "present", "()LBandEngraver$Islands;"⟩, 13), (⟨"BandEngraver$Islands", "gather", "(I)V"⟩, 11), (⟨"BandEngraver$Islands", "enqueue", "(II)I"⟩, 11), (⟨"BandEngraver$Islands", "neighbour", "(II)I"⟩, 11), (⟨"BandEngraver$Islands", "smallestBelow", "(I)I"⟩, 11), (⟨"BandEngraver$Islands", "takerOf", "(I)I"⟩, 11), (⟨"BandEngraver$Islands", "measureBorders", "(I)V"⟩, 11), (⟨"BandEngraver$Islands", "isBetterTaker", "(III)Z"⟩, 11), (⟨"BandEngraver$Islands", "giveNumbers", "()V"⟩, 11), (⟨"BandEngraver", "beginAction", "()V"⟩, 13), (⟨"BandEngraver", "forgetFindings", "()V"⟩, 13), (⟨"BandEngraver$State", "blurredGrey", "([III)I"⟩, 8), (⟨"java/lang/Throwable", "fillInStackTrace", "(I)Ljava/lang/Throwable;"⟩, 6), (⟨"BandEngraver", "obeysWord", "(I)Z"⟩, 13)]
theorem lw_r1 : ∀ q ∈ lw_privs_1, lw_okq q := List.forall_mem_cons.mpr ⟨lw_p0, List.forall_mem_cons.mpr ⟨lw_p1, List.forall_mem_cons.mpr ⟨lw_p2, List.forall_mem_cons.mpr ⟨lw_p3, List.forall_mem_cons.mpr ⟨lw_p4, List.forall_mem_cons.mpr ⟨lw_p5, List.forall_mem_cons.mpr ⟨lw_p6, List.forall_mem_cons.mpr ⟨lw_p7, List.forall_mem_cons.mpr ⟨lw_p8, List.forall_mem_cons.mpr ⟨lw_p9, List.forall_mem_cons.mpr ⟨lw_p10, List.forall_mem_cons.mpr ⟨lw_p11, List.forall_mem_cons.mpr ⟨lw_p12, List.forall_mem_cons.mpr ⟨lw_p13, List.forall_mem_cons.mpr ⟨lw_p14, List.forall_mem_cons.mpr ⟨lw_p15, fun _ h => absurd h List.not_mem_nil⟩⟩⟩⟩⟩⟩⟩⟩⟩⟩⟩⟩⟩⟩⟩⟩
theorem lw_p16 : lw_okq (⟨"BandEngraver$State", "putThreshold", "(I)V"⟩, 8) := ⟨⟨by decide +kernel, by decide +kernel⟩, List.mem_of_getElem? (i := 42) (by decide +kernel), List.mem_of_getElem? (i := 588) (by decide +kernel), List.mem_of_getElem? (i := 589) (by decide +kernel)⟩
theorem lw_p17 : lw_okq (⟨"BandEngraver$State", "takeThreshold", "(I)V"⟩, 8) := ⟨⟨by decide +kernel, by decide +kernel⟩, List.mem_of_getElem? (i := 42) (by decide +kernel), List.mem_of_getElem? (i := 592) (by decide +kernel), List.mem_of_getElem? (i := 593) (by decide +kernel)⟩
theorem lw_p18 : lw_okq (⟨"BandEngraver", "presentNest", "()LBandEngraver$Nest;"⟩, 13) := ⟨⟨by decide +kernel, by decide +kernel⟩, List.mem_of_getElem? (i := 19) (by decide +kernel), List.mem_of_getElem? (i := 623) (by decide +kernel), List.mem_of_getElem? (i := 624) (by decide +kernel)⟩
theorem lw_p19 : lw_okq (⟨"BandEngraver$Nest", "findHoles", "(LBandEngraver$Islands;I)V"⟩, 5) := ⟨⟨by decide +kernel, by decide +kernel⟩, List.mem_of_getElem? (i := 162) (by decide +kernel), List.mem_of_getElem? (i := 636) (by decide +kernel), List.mem_of_getElem? (i := 637) (by decide +kernel)⟩
theorem lw_p20 : lw_okq (⟨"BandEngraver$Nest", "gatherAround", "(LBandEngraver$Islands;II)I"⟩, 5) := ⟨⟨by decide +kernel, by decide +kernel⟩, List.mem_of_getElem? (i := 162) (by decide +kernel), List.mem_of_getElem? (i := 644) (by decide +kernel), List.mem_of_getElem? (i := 645) (by decide +kernel)⟩
theorem lw_p21 : lw_okq (⟨"BandEngraver$Nest", "reachesEdge", "(LBandEngraver$Islands;I)Z"⟩, 5) := ⟨⟨by decide +kernel, by decide +kernel⟩, List.mem_of_getElem? (i := 162) (by decide +kernel), List.mem_of_getElem? (i := 652) (by decide +kernel), List.mem_of_getElem? (i := 653) (by decide +kernel)⟩
theorem lw_p22 : lw_okq (⟨"BandEngraver$Nest", "takeHole", "(LBandEngraver$Islands;II)V"⟩, 5) := ⟨⟨by decide +kernel, by decide +kernel⟩, List.mem_of_getElem? (i := 162) (by decide +kernel), List.mem_of_getElem? (i := 660) (by decide +kernel), List.mem_of_getElem? (i := 661) (by decide +kernel)⟩
theorem lw_p23 : lw_okq (⟨"BandEngraver$Outline", "turned", "(LBandEngraver$Islands;IIII)I"⟩, 4) := ⟨⟨by decide +kernel, by decide +kernel⟩, List.mem_of_getElem? (i := 187) (by decide +kernel), List.mem_of_getElem? (i := 788) (by decide +kernel), List.mem_of_getElem? (i := 789) (by decide +kernel)⟩
theorem lw_p24 : lw_okq (⟨"BandEngraver$State", "leastAbove", "(I)I"⟩, 8) := ⟨⟨by decide +kernel, by decide +kernel⟩, List.mem_of_getElem? (i := 42) (by decide +kernel), List.mem_of_getElem? (i := 867) (by decide +kernel), List.mem_of_getElem? (i := 868) (by decide +kernel)⟩
theorem lw_p25 : lw_okq (⟨"BandEngraver$State", "cellsBelow", "(I)I"⟩, 8) := ⟨⟨by decide +kernel, by decide +kernel⟩, List.mem_of_getElem? (i := 42) (by decide +kernel), List.mem_of_getElem? (i := 871) (by decide +kernel), List.mem_of_getElem? (i := 872) (by decide +kernel)⟩
theorem lw_p26 : lw_okq (⟨"BandEngraver", "obeysGroup", "(I)Z"⟩, 13) := ⟨⟨by decide +kernel, by decide +kernel⟩, List.mem_of_getElem? (i := 19) (by decide +kernel), List.mem_of_getElem? (i := 981) (by decide +kernel), List.mem_of_getElem? (i := 982) (by decide +kernel)⟩
theorem lw_p27 : lw_okq (⟨"BandEngraver", "holdsGroup", "(I)Z"⟩, 13) := ⟨⟨by decide +kernel, by decide +kernel⟩, List.mem_of_getElem? (i := 19) (by decide +kernel), List.mem_of_getElem? (i := 987) (by decide +kernel), List.mem_of_getElem? (i := 988) (by decide +kernel)⟩
theorem lw_p28 : lw_okq (⟨"BandEngraver", "takeTurn", "(I)V"⟩, 13) := ⟨⟨by decide +kernel, by decide +kernel⟩, List.mem_of_getElem? (i := 19) (by decide +kernel), List.mem_of_getElem? (i := 1000) (by decide +kernel), List.mem_of_getElem? (i := 1001) (by decide +kernel)⟩
theorem lw_p29 : lw_okq (⟨"BandEngraverModel", "refused", "(I)Z"⟩, 25) := ⟨⟨by decide +kernel, by decide +kernel⟩, List.mem_of_getElem? (i := 1019) (by decide +kernel), List.mem_of_getElem? (i := 1119) (by decide +kernel), List.mem_of_getElem? (i := 1120) (by decide +kernel)⟩
theorem lw_p30 : lw_okq (⟨"BandEngraverModel", "readText", "([I)I"⟩, 25) := ⟨⟨by decide +kernel, by decide +kernel⟩, List.mem_of_getElem? (i := 1019) (by decide +kernel), List.mem_of_getElem? (i := 1131) (by decide +kernel), List.mem_of_getElem? (i := 1132) (by decide +kernel)⟩
theorem lw_p31 : lw_okq (⟨"BandEngraverModel", "figures", "(III)I"⟩, 25) := ⟨⟨by decide +kernel, by decide +kernel⟩, List.mem_of_getElem? (i := 1019) (by decide +kernel), List.mem_of_getElem? (i := 1135) (by decide +kernel), List.mem_of_getElem? (i := 1136) (by decide +kernel)⟩
def lw_privs_2 : List (MethodName × Nat) := [(⟨"BandEngraver$State", "putThreshold", "(I)V"⟩, 8), (⟨"BandEngraver$State", "takeThreshold", "(I)V"⟩, 8), (⟨"BandEngraver", "presentNest", "()LBandEngraver$Nest;"⟩, 13), (⟨"BandEngraver$Nest", "findHoles", "(LBandEngraver$Islands;I)V"⟩, 5), (⟨"BandEngraver$Nest", "gatherAround", "(LBandEngraver$Islands;II)I"⟩, 5), (⟨"BandEngraver$Nest", "reachesEdge", "(LBandEngraver$Islands;I)Z"⟩, 5), (⟨"BandEngraver$Nest", "takeHole", "(LBandEngraver$Islands;II)V"⟩, 5), (⟨"BandEngraver$Outline", "turned", "(LBandEngraver$Islands;IIII)I"⟩, 4), (⟨"BandEngraver$State", "leastAbove", "(I)I"⟩, 8), (⟨"BandEngraver$State", "cellsBelow", "(I)I"⟩, 8), (⟨"BandEngraver", "obeysGroup", "(I)Z"⟩, 13), (⟨"BandEngraver", "holdsGroup", "(I)Z"⟩, 13), (⟨"BandEngraver", "takeTurn", "(I)V"⟩, 13), (⟨"BandEngraverModel", "refused", "(I)Z"⟩, 25), (⟨"BandEngraverModel", "readText", "([I)I"⟩, 25), (⟨"BandEngraverModel", "figures", "(III)I"⟩, 25)]
theorem lw_r2 : ∀ q ∈ lw_privs_2, lw_okq q := List.forall_mem_cons.mpr ⟨lw_p16, List.forall_mem_cons.mpr ⟨lw_p17, List.forall_mem_cons.mpr ⟨lw_p18, List.forall_mem_cons.mpr ⟨lw_p19, List.forall_mem_cons.mpr ⟨lw_p20, List.forall_mem_cons.mpr ⟨lw_p21, List.forall_mem_cons.mpr ⟨lw_p22, List.forall_mem_cons.mpr ⟨lw_p23, List.forall_mem_cons.mpr ⟨lw_p24, List.forall_mem_cons.mpr ⟨lw_p25, List.forall_mem_cons.mpr ⟨lw_p26, List.forall_mem_cons.mpr ⟨lw_p27, List.forall_mem_cons.mpr ⟨lw_p28, List.forall_mem_cons.mpr ⟨lw_p29, List.forall_mem_cons.mpr ⟨lw_p30, List.forall_mem_cons.mpr ⟨lw_p31, fun _ h => absurd h List.not_mem_nil⟩⟩⟩⟩⟩⟩⟩⟩⟩⟩⟩⟩⟩⟩⟩⟩
theorem lw_p32 : lw_okq (⟨"BandEngraverModel", "readCommand", "([I)Z"⟩, 25) := ⟨⟨by decide +kernel, by decide +kernel⟩, List.mem_of_getElem? (i := 1019) (by decide +kernel), List.mem_of_getElem? (i := 1140) (by decide +kernel), List.mem_of_getElem? (i := 1141) (by decide +kernel)⟩
theorem lw_p33 : lw_okq (⟨"BandEngraverModel", "readCell", "([I)Z"⟩, 25) := ⟨⟨by decide +kernel, by decide +kernel⟩, List.mem_of_getElem? (i := 1019) (by decide +kernel), List.mem_of_getElem? (i := 1144) (by decide +kernel), List.mem_of_getElem? (i := 1145) (by decide +kernel)⟩
theorem lw_p34 : lw_okq (⟨"BandEngraverModel", "done", "(Z)Z"⟩, 25) := ⟨⟨by decide +kernel, by decide +kernel⟩, List.mem_of_getElem? (i := 1019) (by decide +kernel), List.mem_of_getElem? (i := 1160) (by decide +kernel), List.mem_of_getElem? (i := 1161) (by decide +kernel)⟩
theorem lw_p35 : lw_okq (⟨"BandEngraverModel", "readBox", "([I)Z"⟩, 25) := ⟨⟨by decide +kernel, by decide +kernel⟩, List.mem_of_getElem? (i := 1019) (by decide +kernel), List.mem_of_getElem? (i := 1164) (by decide +kernel), List.mem_of_getElem? (i := 1165) (by decide +kernel)⟩
theorem lw_p36 : lw_okq (⟨"BandEngraverModel", "blurOn", "([I)I"⟩, 25) := ⟨⟨by decide +kernel, by decide +kernel⟩, List.mem_of_getElem? (i := 1019) (by decide +kernel), List.mem_of_getElem? (i := 1186) (by decide +kernel), List.mem_of_getElem? (i := 1187) (by decide +kernel)⟩
theorem lw_p37 : lw_okq (⟨"BandEngraverModel", "takeOver", "([I)I"⟩, 25) := ⟨⟨by decide +kernel, by decide +kernel⟩, List.mem_of_getElem? (i := 1019) (by decide +kernel), List.mem_of_getElem? (i := 1196) (by decide +kernel), List.mem_of_getElem? (i := 1197) (by decide +kernel)⟩
theorem lw_p38 : lw_okq (⟨"BandEngraverModel", "spreadOn", "([II)I"⟩, 25) := ⟨⟨by decide +kernel, by decide +kernel⟩, List.mem_of_getElem? (i := 1019) (by decide +kernel), List.mem_of_getElem? (i := 1206) (by decide +kernel), List.mem_of_getElem? (i := 1207) (by decide +kernel)⟩
theorem lw_p39 : lw_okq (⟨"BandEngraverModel", "findAs", "([I)V"⟩, 25) := ⟨⟨by decide +kernel, by decide +kernel⟩, List.mem_of_getElem? (i := 1019) (by decide +kernel), List.mem_of_getElem? (i := 1222) (by decide +kernel), List.mem_of_getElem? (i := 1223) (by decide +kernel)⟩
theorem lw_p40 : lw_okq (⟨"BandEngraverModel", "find", "([II)V"⟩, 25) := ⟨⟨by decide +kernel, by decide +kernel⟩, List.mem_of_getElem? (i := 1019) (by decide +kernel), List.mem_of_getElem? (i := 1226) (by decide +kernel), List.mem_of_getElem? (i := 1227) (by decide +kernel)⟩
theorem lw_p41 : lw_okq (⟨"BandEngraverModel", "markGreys", "([I)V"⟩, 25) := ⟨⟨by decide +kernel, by decide +kernel⟩, List.mem_of_getElem? (i := 1019) (by decide +kernel), List.mem_of_getElem? (i := 1230) (by decide +kernel), List.mem_of_getElem? (i := 1231) (by decide +kernel)⟩
theorem lw_p42 : lw_okq (⟨"BandEngraverModel", "mark", "([I)V"⟩, 25) := ⟨⟨by decide +kernel, by decide +kernel⟩, List.mem_of_getElem? (i := 1019) (by decide +kernel), List.mem_of_getElem? (i := 1237) (by decide +kernel), List.mem_of_getElem? (i := 1238) (by decide +kernel)⟩
theorem lw_p43 : lw_okq (⟨"BandEngraverModel", "flood", "([II)V"⟩, 25) := ⟨⟨by decide +kernel, by decide +kernel⟩, List.mem_of_getElem? (i := 1019) (by decide +kernel), List.mem_of_getElem? (i := 1241) (by decide +kernel), List.mem_of_getElem? (i := 1242) (by decide +kernel)⟩
theorem lw_p44 : lw_okq (⟨"BandEngraverModel", "smallest", "(I)I"⟩, 25) := ⟨⟨by decide +kernel, by decide +kernel⟩, List.mem_of_getElem? (i := 1019) (by decide +kernel), List.mem_of_getElem? (i := 1245) (by decide +kernel), List.mem_of_getElem? (i := 1246) (by decide +kernel)⟩
theorem lw_p45 : lw_okq (⟨"BandEngraverModel", "meet", "([II)V"⟩, 25) := ⟨⟨by decide +kernel, by decide +kernel⟩, List.mem_of_getElem? (i := 1019) (by decide +kernel), List.mem_of_getElem? (i := 1249) (by decide +kernel), List.mem_of_getElem? (i := 1250) (by decide +kernel)⟩
theorem lw_p46 : lw_okq (⟨"BandEngraverModel", "isBetter", "(III)Z"⟩, 25) := ⟨⟨by decide +kernel, by decide +kernel⟩, List.mem_of_getElem? (i := 1019) (by decide +kernel), List.mem_of_getElem? (i := 1253) (by decide +kernel), List.mem_of_getElem? (i := 1254) (by decide +kernel)⟩
theorem lw_p47 : lw_okq (⟨"BandEngraverModel", "bandOfIsle", "(I)I"⟩, 25) := ⟨⟨by decide +kernel, by decide +kernel⟩, List.mem_of_getElem? (i := 1019) (by decide +kernel), List.mem_of_getElem? (i := 1257) (by decide +kernel), List.mem_of_getElem? (i := 1258) (by decide +kernel)⟩
def lw_privs_3 : List (MethodName × Nat) := [(⟨"BandEngraverModel", "readCommand", "([I)Z"⟩, 25), (⟨"BandEngraverModel", "readCell", "([I)Z"⟩, 25), (⟨"BandEngraverModel", "done", "(Z)Z"⟩, 25), (⟨"BandEngraverModel", "readBox", "([I)Z"⟩, 25), (⟨"BandEngraverModel", "blurOn", "([I)I"⟩, 25), (⟨"BandEngraverModel", "takeOver", "([I)I"⟩, 25), (⟨"BandEngraverModel", "spreadOn", "([II)I"⟩, 25), (⟨"BandEngraverModel", "findAs", "([I)V"⟩, 25), (⟨"BandEngraverModel", "find", "([II)V"⟩, 25), (⟨"BandEngraverModel", "markGreys", "([I)V"⟩, 25), (⟨"BandEngraverModel", "mark", "([I)V"⟩, 25), (⟨"BandEngraverModel", "flood", "([II)V"⟩, 25), (⟨"BandEngraverModel", "smallest", "(I)I"⟩, 25), (⟨"BandEngraverModel", "meet", "([II)V"⟩, 25), (⟨"BandEngraverModel", "isBetter", "(III)Z"⟩, 25), (⟨"BandEngraverModel", "bandOfIsle", "(I)I"⟩, 25)]
theorem lw_r3 : ∀ q ∈ lw_privs_3, lw_okq q := List.forall_mem_cons.mpr ⟨lw_p32, List.forall_mem_cons.mpr ⟨lw_p33, List.forall_mem_cons.mpr ⟨lw_p34, List.forall_mem_cons.mpr ⟨lw_p35, List.forall_mem_cons.mpr ⟨lw_p36, List.forall_mem_cons.mpr ⟨lw_p37, List.forall_mem_cons.mpr ⟨lw_p38, List.forall_mem_cons.mpr ⟨lw_p39, List.forall_mem_cons.mpr ⟨lw_p40, List.forall_mem_cons.mpr ⟨lw_p41, List.forall_mem_cons.mpr ⟨lw_p42, List.forall_mem_cons.mpr ⟨lw_p43, List.forall_mem_cons.mpr ⟨lw_p44, List.forall_mem_cons.mpr ⟨lw_p45, List.forall_mem_cons.mpr ⟨lw_p46, List.forall_mem_cons.mpr ⟨lw_p47, fun _ h => absurd h List.not_mem_nil⟩⟩⟩⟩⟩⟩⟩⟩⟩⟩⟩⟩⟩⟩⟩⟩
theorem lw_p48 : lw_okq (⟨"BandEngraverModel", "otherBands", "([I)I"⟩, 25) := ⟨⟨by decide +kernel, by decide +kernel⟩, List.mem_of_getElem? (i := 1019) (by decide +kernel), List.mem_of_getElem? (i := 1261) (by decide +kernel), List.mem_of_getElem? (i := 1262) (by decide +kernel)⟩
theorem lw_p49 : lw_okq (⟨"BandEngraverModel", "allSides", "([I)I"⟩, 25) := ⟨⟨by decide +kernel, by decide +kernel⟩, List.mem_of_getElem? (i := 1019) (by decide +kernel), List.mem_of_getElem? (i := 1265) (by decide +kernel), List.mem_of_getElem? (i := 1266) (by decide +kernel)⟩
theorem lw_p50 : lw_okq (⟨"BandEngraverModel", "sidesOf", "([II)I"⟩, 25) := ⟨⟨by decide +kernel, by decide +kernel⟩, List.mem_of_getElem? (i := 1019) (by decide +kernel), List.mem_of_getElem? (i := 1269) (by decide +kernel), List.mem_of_getElem? (i := 1270) (by decide +kernel)⟩
theorem lw_p51 : lw_okq (⟨"BandEngraverModel", "holes", "([II)I"⟩, 25) := ⟨⟨by decide +kernel, by decide +kernel⟩, List.mem_of_getElem? (i := 1019) (by decide +kernel), List.mem_of_getElem? (i := 1273) (by decide +kernel), List.mem_of_getElem? (i := 1274) (by decide +kernel)⟩
theorem lw_p52 : lw_okq (⟨"BandEngraverModel", "noMarks", "()V"⟩, 25) := ⟨⟨by decide +kernel, by decide +kernel⟩, List.mem_of_getElem? (i := 1019) (by decide +kernel), List.mem_of_getElem? (i := 1277) (by decide +kernel), List.mem_of_getElem? (i := 1278) (by decide +kernel)⟩
theorem lw_p53 : lw_okq (⟨"BandEngraverModel", "floodHole", "([III)Z"⟩, 25) := ⟨⟨by decide +kernel, by decide +kernel⟩, List.mem_of_getElem? (i := 1019) (by decide +kernel), List.mem_of_getElem? (i := 1281) (by decide +kernel), List.mem_of_getElem? (i := 1282) (by decide +kernel)⟩
theorem lw_p54 : lw_okq (⟨"BandEngraverModel", "isIsle", "(I)Z"⟩, 25) := ⟨⟨by decide +kernel, by decide +kernel⟩, List.mem_of_getElem? (i := 1019) (by decide +kernel), List.mem_of_getElem? (i := 1301) (by decide +kernel), List.mem_of_getElem? (i := 1302) (by decide +kernel)⟩
theorem lw_p55 : lw_okq (⟨"BandEngraverModel", "sidesOfIsle", "(IZ)I"⟩, 25) := ⟨⟨by decide +kernel, by decide +kernel⟩, List.mem_of_getElem? (i := 1019) (by decide +kernel), List.mem_of_getElem? (i := 1306) (by decide +kernel), List.mem_of_getElem? (i := 1307) (by decide +kernel)⟩
theorem lw_p56 : lw_okq (⟨"BandEngraverModel", "near", "(I)I"⟩, 25) := ⟨⟨by decide +kernel, by decide +kernel⟩, List.mem_of_getElem? (i := 1019) (by decide +kernel), List.mem_of_getElem? (i := 1310) (by decide +kernel), List.mem_of_getElem? (i := 1311) (by decide +kernel)⟩
theorem lw_p57 : lw_okq (⟨"BandEngraverModel", "motherOf", "([II)I"⟩, 25) := ⟨⟨by decide +kernel, by decide +kernel⟩, List.mem_of_getElem? (i := 1019) (by decide +kernel), List.mem_of_getElem? (i := 1314) (by decide +kernel), List.mem_of_getElem? (i := 1315) (by decide +kernel)⟩
theorem lw_p58 : lw_okq (⟨"BandEngraverModel", "liesIn", "([III)Z"⟩, 25) := ⟨⟨by decide +kernel, by decide +kernel⟩, List.mem_of_getElem? (i := 1019) (by decide +kernel), List.mem_of_getElem? (i := 1318) (by decide +kernel), List.mem_of_getElem? (i := 1319) (by decide +kernel)⟩
theorem lw_p59 : lw_okq (⟨"BandEngraverModel", "inIt", "([II)I"⟩, 25) := ⟨⟨by decide +kernel, by decide +kernel⟩, List.mem_of_getElem? (i := 1019) (by decide +kernel), List.mem_of_getElem? (i := 1322) (by decide +kernel), List.mem_of_getElem? (i := 1323) (by decide +kernel)⟩
theorem lw_p60 : lw_okq (⟨"BandEngraverModel", "walk", "([III)V"⟩, 25) := ⟨⟨by decide +kernel, by decide +kernel⟩, List.mem_of_getElem? (i := 1019) (by decide +kernel), List.mem_of_getElem? (i := 1335) (by decide +kernel), List.mem_of_getElem? (i := 1336) (by decide +kernel)⟩
theorem lw_p61 : lw_okq (⟨"BandEngraverModel", "isOf", "([IIII)Z"⟩, 25) := ⟨⟨by decide +kernel, by decide +kernel⟩, List.mem_of_getElem? (i := 1019) (by decide +kernel), List.mem_of_getElem? (i := 1339) (by decide +kernel), List.mem_of_getElem? (i := 1340) (by decide +kernel)⟩
theorem lw_p62 : lw_okq (⟨"BandEngraverModel", "inkOf", "([I)I"⟩, 25) := ⟨⟨by decide +kernel, by decide +kernel⟩, List.mem_of_getElem? (i := 1019) (by decide +kernel), List.mem_of_getElem? (i := 1356) (by decide +kernel), List.mem_of_getElem? (i := 1357) (by decide +kernel)⟩
theorem lw_p63 : lw_okq (⟨"BandEngraverModel", "remember", "()V"⟩, 25) := ⟨⟨by decide +kernel, by decide +kernel⟩, List.mem_of_getElem? (i := 1019) (by decide +kernel), List.mem_of_getElem? (i := 1365) (by decide +kernel), List.mem_of_getElem? (i := 1366) (by decide +kernel)⟩
def lw_privs_4 : List (MethodName × Nat) := [(⟨"BandEngraverModel", "otherBands", "([I)I"⟩, 25), (⟨"BandEngraverModel", "allSides", "([I)I"⟩, 25), (⟨"BandEngraverModel", "sidesOf", "([II)I"⟩, 25), (⟨"BandEngraverModel", "holes", "([II)I"⟩, 25), (⟨"BandEngraverModel", "noMarks", "()V"⟩, 25), (⟨"BandEngraverModel", "floodHole", "([III)Z"⟩, 25), (⟨"BandEngraverModel", "isIsle", "(I)Z"⟩, 25), (⟨"BandEngraverModel", "sidesOfIsle", "(IZ)I"⟩, 25), (⟨"BandEngraverModel", "near", "(I)I"⟩, 25), (⟨"BandEngraverModel", "motherOf", "([II)I"⟩, 25), (⟨"BandEngraverModel", "liesIn", "([III)Z"⟩, 25), (⟨"BandEngraverModel", "inIt", "([II)I"⟩, 25), (⟨"BandEngraverModel", "walk", "([III)V"⟩, 25), (⟨"BandEngraverModel", "isOf", "([IIII)Z"⟩, 25), (⟨"BandEngraverModel", "inkOf", "([I)I"⟩, 25), (⟨"BandEngraverModel", "remember", "()V"⟩, 25)]
theorem lw_r4 : ∀ q ∈ lw_privs_4, lw_okq q := List.forall_mem_cons.mpr ⟨lw_p48, List.forall_mem_cons.mpr ⟨lw_p49, List.forall_mem_cons.mpr ⟨lw_p50, List.forall_mem_cons.mpr ⟨lw_p51, List.forall_mem_cons.mpr ⟨lw_p52, List.forall_mem_cons.mpr ⟨lw_p53, List.forall_mem_cons.mpr ⟨lw_p54, List.forall_mem_cons.mpr ⟨lw_p55, List.forall_mem_cons.mpr ⟨lw_p56, List.forall_mem_cons.mpr ⟨lw_p57, List.forall_mem_cons.mpr ⟨lw_p58, List.forall_mem_cons.mpr ⟨lw_p59, List.forall_mem_cons.mpr ⟨lw_p60, List.forall_mem_cons.mpr ⟨lw_p61, List.forall_mem_cons.mpr ⟨lw_p62, List.forall_mem_cons.mpr ⟨lw_p63, fun _ h => absurd h List.not_mem_nil⟩⟩⟩⟩⟩⟩⟩⟩⟩⟩⟩⟩⟩⟩⟩⟩
theorem lw_p64 : lw_okq (⟨"BandEngraverModel", "change", "(II)I"⟩, 25) := ⟨⟨by decide +kernel, by decide +kernel⟩, List.mem_of_getElem? (i := 1019) (by decide +kernel), List.mem_of_getElem? (i := 1403) (by decide +kernel), List.mem_of_getElem? (i := 1404) (by decide +kernel)⟩
theorem lw_p65 : lw_okq (⟨"BandEngraverModel", "noiseOn", "([IJI)I"⟩, 25) := ⟨⟨by decide +kernel, by decide +kernel⟩, List.mem_of_getElem? (i := 1019) (by decide +kernel), List.mem_of_getElem? (i := 1433) (by decide +kernel), List.mem_of_getElem? (i := 1434) (by decide +kernel)⟩
theorem lw_p66 : lw_okq (⟨"BandEngraverModel", "command", "(II)Z"⟩, 25) := ⟨⟨by decide +kernel, by decide +kernel⟩, List.mem_of_getElem? (i := 1019) (by decide +kernel), List.mem_of_getElem? (i := 1469) (by decide +kernel), List.mem_of_getElem? (i := 1470) (by decide +kernel)⟩
theorem lw_p67 : lw_okq (⟨"BandEngraverModel", "paints", "(III)Z"⟩, 25) := ⟨⟨by decide +kernel, by decide +kernel⟩, List.mem_of_getElem? (i := 1019) (by decide +kernel), List.mem_of_getElem? (i := 1474) (by decide +kernel), List.mem_of_getElem? (i := 1475) (by decide +kernel)⟩
theorem lw_p68 : lw_okq (⟨"BandEngraverModel", "boxes", "(IIIII)Z"⟩, 25) := ⟨⟨by decide +kernel, by decide +kernel⟩, List.mem_of_getElem? (i := 1019) (by decide +kernel), List.mem_of_getElem? (i := 1478) (by decide +kernel), List.mem_of_getElem? (i := 1479) (by decide +kernel)⟩
theorem lw_p69 : lw_okq (⟨"BandEngraverModel", "parts", "(IZ)Z"⟩, 25) := ⟨⟨by decide +kernel, by decide +kernel⟩, List.mem_of_getElem? (i := 1019) (by decide +kernel), List.mem_of_getElem? (i := 1482) (by decide +kernel), List.mem_of_getElem? (i := 1483) (by decide +kernel)⟩
theorem lw_p70 : lw_okq (⟨"BandEngraverModel", "setsLeast", "(I)Z"⟩, 25) := ⟨⟨by decide +kernel, by decide +kernel⟩, List.mem_of_getElem? (i := 1019) (by decide +kernel), List.mem_of_getElem? (i := 1486) (by decide +kernel), List.mem_of_getElem? (i := 1487) (by decide +kernel)⟩
theorem lw_p71 : lw_okq (⟨"BandEngraverModel", "turn", "(I)V"⟩, 25) := ⟨⟨by decide +kernel, by decide +kernel⟩, List.mem_of_getElem? (i := 1019) (by decide +kernel), List.mem_of_getElem? (i := 1495) (by decide +kernel), List.mem_of_getElem? (i := 1496) (by decide +kernel)⟩
def lw_privs_5 : List (MethodName × Nat) := [(⟨"BandEngraverModel", "change", "(II)I"⟩, 25), (⟨"BandEngraverModel", "noiseOn", "([IJI)I"⟩, 25), (⟨"BandEngraverModel", "command", "(II)Z"⟩, 25), (⟨"BandEngraverModel", "paints", "(III)Z"⟩, 25), (⟨"BandEngraverModel", "boxes", "(IIIII)Z"⟩, 25), (⟨"BandEngraverModel", "parts", "(IZ)Z"⟩, 25), (⟨"BandEngraverModel", "setsLeast", "(I)Z"⟩, 25), (⟨"BandEngraverModel", "turn", "(I)V"⟩, 25)]
theorem lw_r5 : ∀ q ∈ lw_privs_5, lw_okq q := List.forall_mem_cons.mpr ⟨lw_p64, List.forall_mem_cons.mpr ⟨lw_p65, List.forall_mem_cons.mpr ⟨lw_p66, List.forall_mem_cons.mpr ⟨lw_p67, List.forall_mem_cons.mpr ⟨lw_p68, List.forall_mem_cons.mpr ⟨lw_p69, List.forall_mem_cons.mpr ⟨lw_p70, List.forall_mem_cons.mpr ⟨lw_p71, fun _ h => absurd h List.not_mem_nil⟩⟩⟩⟩⟩⟩⟩⟩
def lw_privs : List (MethodName × Nat) := lw_privs_1 ++ (lw_privs_2 ++ (lw_privs_3 ++ (lw_privs_4 ++ (lw_privs_5))))
def lw_tbl : List Cond := k2_sels lw_privs ++ tables_1
theorem lw_privs_ok : ∀ q ∈ lw_privs, lw_okq q := by
  show ∀ q ∈ lw_privs_1 ++ (lw_privs_2 ++ (lw_privs_3 ++ (lw_privs_4 ++ (lw_privs_5)))), lw_okq q
  exact List.forall_mem_append.mpr ⟨lw_r1, List.forall_mem_append.mpr ⟨lw_r2, List.forall_mem_append.mpr ⟨lw_r3, List.forall_mem_append.mpr ⟨lw_r4, lw_r5⟩⟩⟩⟩
def RX0 : String := "BandEngraver$Islands"
def TX0 : u_T := fun k => match k with
  | 0 => ("BandEngraver$Islands", "columns", "I", false)
  | 1 => ("BandEngraver$Islands", "rows", "I", false)
  | 2 => ("BandEngraver$Islands", "cells", "I", false)
  | 3 => ("BandEngraver$Islands", "count", "I", false)
  | 4 => ("BandEngraver$Islands", "bands", "[I", true)
  | 5 => ("BandEngraver$Islands", "firsts", "[I", true)
  | 6 => ("BandEngraver$Islands", "sizes", "[I", true)
  | 7 => ("BandEngraver$Islands", "borders", "[I", true)
  | 8 => ("BandEngraver$Islands", "queue", "[I", true)
  | 9 => ("BandEngraver$Islands", "firstOf", "[I", true)
  | _ => ("BandEngraver$Islands", "numberOf", "[I", true)
def tyX0 : Nat → FieldType := fun k => match k with
  | 0 => .int
  | 1 => .int
  | 2 => .int
  | 3 => .int
  | 4 => .array .int
  | 5 => .array .int
  | 6 => .array .int
  | 7 => .array .int
  | 8 => .array .int
  | 9 => .array .int
  | _ => .array .int
theorem nmX0 : ∀ a, a < 11 → ∀ b, b < 11 → a ≠ b → (TX0 a).2.1 ≠ (TX0 b).2.1 := by decide +kernel
theorem tyX0_ok : ∀ k, k < 11 → parseFieldDescriptor (TX0 k).2.2.1 = some (tyX0 k) := by decide +kernel
abbrev cX0_init : ByteArray := prog_2_method_1_code
def yX0_init : MethodName := ⟨RX0, "<init>", "()V"⟩
abbrev cX0_survey : ByteArray := prog_2_method_2_code
def yX0_survey : MethodName := ⟨RX0, "survey", "(LBandEngraver$State;I)V"⟩
abbrev cX0_mergeBelow : ByteArray := prog_2_method_3_code
def yX0_mergeBelow : MethodName := ⟨RX0, "mergeBelow", "(I)V"⟩
abbrev cX0_smallestBelow : ByteArray := prog_2_method_4_code
def yX0_smallestBelow : MethodName := ⟨RX0, "smallestBelow", "(I)I"⟩
abbrev cX0_takerOf : ByteArray := prog_2_method_5_code
def yX0_takerOf : MethodName := ⟨RX0, "takerOf", "(I)I"⟩
abbrev cX0_isBetterTaker : ByteArray := prog_2_method_6_code
def yX0_isBetterTaker : MethodName := ⟨RX0, "isBetterTaker", "(III)Z"⟩
abbrev cX0_measureBorders : ByteArray := prog_2_method_7_code
def yX0_measureBorders : MethodName := ⟨RX0, "measureBorders", "(I)V"⟩
abbrev cX0_gather : ByteArray := prog_2_method_8_code
def yX0_gather : MethodName := ⟨RX0, "gather", "(I)V"⟩
abbrev cX0_enqueue : ByteArray := prog_2_method_9_code
def yX0_enqueue : MethodName := ⟨RX0, "enqueue", "(II)I"⟩
abbrev cX0_giveNumbers : ByteArray := prog_2_method_10_code
def yX0_giveNumbers : MethodName := ⟨RX0, "giveNumbers", "()V"⟩
abbrev cX0_neighbour : ByteArray := prog_2_method_11_code
def yX0_neighbour : MethodName := ⟨RX0, "neighbour", "(II)I"⟩
abbrev cX0_isOnPlate : ByteArray := prog_2_method_12_code
def yX0_isOnPlate : MethodName := ⟨RX0, "isOnPlate", "(II)Z"⟩
abbrev cX0_isAtEdge : ByteArray := prog_2_method_13_code
def yX0_isAtEdge : MethodName := ⟨RX0, "isAtEdge", "(I)Z"⟩
abbrev cX0_has : ByteArray := prog_2_method_14_code
def yX0_has : MethodName := ⟨RX0, "has", "(I)Z"⟩
abbrev cX0_islandAt : ByteArray := prog_2_method_15_code
def yX0_islandAt : MethodName := ⟨RX0, "islandAt", "(I)I"⟩
abbrev cX0_isFirstCell : ByteArray := prog_2_method_16_code
def yX0_isFirstCell : MethodName := ⟨RX0, "isFirstCell", "(I)Z"⟩
abbrev cX0_bandAt : ByteArray := prog_2_method_17_code
def yX0_bandAt : MethodName := ⟨RX0, "bandAt", "(I)I"⟩
abbrev cX0_firstCell : ByteArray := prog_2_method_18_code
def yX0_firstCell : MethodName := ⟨RX0, "firstCell", "(I)I"⟩
abbrev cX0_size : ByteArray := prog_2_method_19_code
def yX0_size : MethodName := ⟨RX0, "size", "(I)I"⟩
abbrev cX0_bandOf : ByteArray := prog_2_method_20_code
def yX0_bandOf : MethodName := ⟨RX0, "bandOf", "(I)I"⟩
abbrev cX0_otherSidesAt : ByteArray := prog_2_method_21_code
def yX0_otherSidesAt : MethodName := ⟨RX0, "otherSidesAt", "(I)I"⟩
abbrev cX0_sidesToOthers : ByteArray := prog_2_method_22_code
def yX0_sidesToOthers : MethodName := ⟨RX0, "sidesToOthers", "(I)I"⟩
abbrev cX0_neighbourCount : ByteArray := prog_2_method_23_code
def yX0_neighbourCount : MethodName := ⟨RX0, "neighbourCount", "(I)I"⟩
abbrev cX0_commonSides : ByteArray := prog_2_method_24_code
def yX0_commonSides : MethodName := ⟨RX0, "commonSides", "(II)I"⟩
abbrev cX0_sidesAtEdge : ByteArray := prog_2_method_25_code
def yX0_sidesAtEdge : MethodName := ⟨RX0, "sidesAtEdge", "(I)I"⟩
abbrev cX0_allSides : ByteArray := prog_2_method_26_code
def yX0_allSides : MethodName := ⟨RX0, "allSides", "()I"⟩
abbrev cX0_cellsOffTheirGrey : ByteArray := prog_2_method_27_code
def yX0_cellsOffTheirGrey : MethodName := ⟨RX0, "cellsOffTheirGrey", "(LBandEngraver$State;)I"⟩
abbrev cX0_cellsOtherThan : ByteArray := prog_2_method_28_code
def yX0_cellsOtherThan : MethodName := ⟨RX0, "cellsOtherThan", "(LBandEngraver$Islands;)I"⟩
abbrev cX0_cellsOfBand : ByteArray := prog_2_method_29_code
def yX0_cellsOfBand : MethodName := ⟨RX0, "cellsOfBand", "(I)I"⟩
abbrev cX0_islandsOfBand : ByteArray := prog_2_method_30_code
def yX0_islandsOfBand : MethodName := ⟨RX0, "islandsOfBand", "(I)I"⟩
abbrev cX0_inkNeeded : ByteArray := prog_2_method_31_code
def yX0_inkNeeded : MethodName := ⟨RX0, "inkNeeded", "(LBandEngraver$State;)I"⟩
def RX1 : String := "BandEngraver$Memory"
def TX1 : u_T := fun k => match k with
  | 0 => ("BandEngraver$Memory", "states", "[LBandEngraver$State;", true)
  | 1 => ("BandEngraver$Memory", "count", "I", false)
  | _ => ("BandEngraver$Memory", "next", "I", false)
def tyX1 : Nat → FieldType := fun k => match k with
  | 0 => .array (.object "BandEngraver$State")
  | 1 => .int
  | _ => .int
theorem nmX1 : ∀ a, a < 3 → ∀ b, b < 3 → a ≠ b → (TX1 a).2.1 ≠ (TX1 b).2.1 := by decide +kernel
theorem tyX1_ok : ∀ k, k < 3 → parseFieldDescriptor (TX1 k).2.2.1 = some (tyX1 k) := by decide +kernel
abbrev cX1_init : ByteArray := prog_3_method_1_code
def yX1_init : MethodName := ⟨RX1, "<init>", "()V"⟩
abbrev cX1_remember : ByteArray := prog_3_method_2_code
def yX1_remember : MethodName := ⟨RX1, "remember", "(LBandEngraver$State;)V"⟩
abbrev cX1_takeBack : ByteArray := prog_3_method_3_code
def yX1_takeBack : MethodName := ⟨RX1, "takeBack", "(LBandEngraver$State;)V"⟩
abbrev cX1_forgetAll : ByteArray := prog_3_method_4_code
def yX1_forgetAll : MethodName := ⟨RX1, "forgetAll", "()V"⟩
def RX2 : String := "BandEngraver$Nest"
def TX2 : u_T := fun k => match k with
  | 0 => ("BandEngraver$Nest", "holes", "[I", true)
  | 1 => ("BandEngraver$Nest", "mothers", "[I", true)
  | 2 => ("BandEngraver$Nest", "inside", "[I", true)
  | 3 => ("BandEngraver$Nest", "seen", "[I", true)
  | _ => ("BandEngraver$Nest", "queue", "[I", true)
def tyX2 : Nat → FieldType := fun k => match k with
  | 0 => .array .int
  | 1 => .array .int
  | 2 => .array .int
  | 3 => .array .int
  | _ => .array .int
theorem nmX2 : ∀ a, a < 5 → ∀ b, b < 5 → a ≠ b → (TX2 a).2.1 ≠ (TX2 b).2.1 := by decide +kernel
theorem tyX2_ok : ∀ k, k < 5 → parseFieldDescriptor (TX2 k).2.2.1 = some (tyX2 k) := by decide +kernel
abbrev cX2_init : ByteArray := prog_4_method_1_code
def yX2_init : MethodName := ⟨RX2, "<init>", "()V"⟩
abbrev cX2_explore : ByteArray := prog_4_method_2_code
def yX2_explore : MethodName := ⟨RX2, "explore", "(LBandEngraver$Islands;)V"⟩
abbrev cX2_allHoles : ByteArray := prog_4_method_3_code
def yX2_allHoles : MethodName := ⟨RX2, "allHoles", "()I"⟩
abbrev cX2_findHoles : ByteArray := prog_4_method_4_code
def yX2_findHoles : MethodName := ⟨RX2, "findHoles", "(LBandEngraver$Islands;I)V"⟩
abbrev cX2_gatherAround : ByteArray := prog_4_method_5_code
def yX2_gatherAround : MethodName := ⟨RX2, "gatherAround", "(LBandEngraver$Islands;II)I"⟩
abbrev cX2_reachesEdge : ByteArray := prog_4_method_6_code
def yX2_reachesEdge : MethodName := ⟨RX2, "reachesEdge", "(LBandEngraver$Islands;I)Z"⟩
abbrev cX2_takeHole : ByteArray := prog_4_method_7_code
def yX2_takeHole : MethodName := ⟨RX2, "takeHole", "(LBandEngraver$Islands;II)V"⟩
def RX3 : String := "BandEngraver$Outline"
def TX3 : u_T := fun k => match k with
  | 0 => ("BandEngraver$Outline", "sides", "I", false)
  | 1 => ("BandEngraver$Outline", "rightTurns", "I", false)
  | 2 => ("BandEngraver$Outline", "leftTurns", "I", false)
  | _ => ("BandEngraver$Outline", "wayAsked", "I", false)
def tyX3 : Nat → FieldType := fun k => match k with
  | 0 => .int
  | 1 => .int
  | 2 => .int
  | _ => .int
theorem nmX3 : ∀ a, a < 4 → ∀ b, b < 4 → a ≠ b → (TX3 a).2.1 ≠ (TX3 b).2.1 := by decide +kernel
theorem tyX3_ok : ∀ k, k < 4 → parseFieldDescriptor (TX3 k).2.2.1 = some (tyX3 k) := by decide +kernel
abbrev cX3_init : ByteArray := prog_5_method_1_code
def yX3_init : MethodName := ⟨RX3, "<init>", "()V"⟩
abbrev cX3_follow : ByteArray := prog_5_method_2_code
def yX3_follow : MethodName := ⟨RX3, "follow", "(LBandEngraver$Islands;II)V"⟩
abbrev cX3_turned : ByteArray := prog_5_method_3_code
def yX3_turned : MethodName := ⟨RX3, "turned", "(LBandEngraver$Islands;IIII)I"⟩
abbrev cX3_isOfIsland : ByteArray := prog_5_method_4_code
def yX3_isOfIsland : MethodName := ⟨RX3, "isOfIsland", "(LBandEngraver$Islands;IIII)Z"⟩
abbrev cX3_eastOf : ByteArray := prog_5_method_5_code
def yX3_eastOf : MethodName := ⟨RX3, "eastOf", "(I)I"⟩
abbrev cX3_southOf : ByteArray := prog_5_method_6_code
def yX3_southOf : MethodName := ⟨RX3, "southOf", "(I)I"⟩
def RX4 : String := "BandEngraver$State"
def TX4 : u_T := fun k => match k with
  | 0 => ("BandEngraver$State", "columns", "I", false)
  | 1 => ("BandEngraver$State", "rows", "I", false)
  | 2 => ("BandEngraver$State", "greys", "[I", true)
  | 3 => ("BandEngraver$State", "thresholds", "[I", true)
  | 4 => ("BandEngraver$State", "thresholdCount", "I", false)
  | 5 => ("BandEngraver$State", "leastSize", "I", false)
  | 6 => ("BandEngraver$State", "hatchings", "[I", true)
  | _ => ("BandEngraver$State", "lineInk", "I", false)
def tyX4 : Nat → FieldType := fun k => match k with
  | 0 => .int
  | 1 => .int
  | 2 => .array .int
  | 3 => .array .int
  | 4 => .int
  | 5 => .int
  | 6 => .array .int
  | _ => .int
theorem nmX4 : ∀ a, a < 8 → ∀ b, b < 8 → a ≠ b → (TX4 a).2.1 ≠ (TX4 b).2.1 := by decide +kernel
theorem tyX4_ok : ∀ k, k < 8 → parseFieldDescriptor (TX4 k).2.2.1 = some (tyX4 k) := by decide +kernel
abbrev cX4_init : ByteArray := prog_6_method_1_code
def yX4_init : MethodName := ⟨RX4, "<init>", "()V"⟩
abbrev cX4_reset : ByteArray := prog_6_method_2_code
def yX4_reset : MethodName := ⟨RX4, "reset", "(II)V"⟩
abbrev cX4_takePlate : ByteArray := prog_6_method_3_code
def yX4_takePlate : MethodName := ⟨RX4, "takePlate", "(II)V"⟩
abbrev cX4_copyFrom : ByteArray := prog_6_method_4_code
def yX4_copyFrom : MethodName := ⟨RX4, "copyFrom", "(LBandEngraver$State;)V"⟩
abbrev cX4_cellCount : ByteArray := prog_6_method_5_code
def yX4_cellCount : MethodName := ⟨RX4, "cellCount", "()I"⟩
abbrev cX4_hasCell : ByteArray := prog_6_method_6_code
def yX4_hasCell : MethodName := ⟨RX4, "hasCell", "(II)Z"⟩
abbrev cX4_cellNumber : ByteArray := prog_6_method_7_code
def yX4_cellNumber : MethodName := ⟨RX4, "cellNumber", "(II)I"⟩
abbrev cX4_greyAt : ByteArray := prog_6_method_8_code
def yX4_greyAt : MethodName := ⟨RX4, "greyAt", "(II)I"⟩
abbrev cX4_hasGrey : ByteArray := prog_6_method_9_code
def yX4_hasGrey : MethodName := ⟨RX4, "hasGrey", "(I)Z"⟩
abbrev cX4_sumOfGreys : ByteArray := prog_6_method_10_code
def yX4_sumOfGreys : MethodName := ⟨RX4, "sumOfGreys", "()I"⟩
abbrev cX4_setGrey : ByteArray := prog_6_method_11_code
def yX4_setGrey : MethodName := ⟨RX4, "setGrey", "(III)I"⟩
abbrev cX4_trySetGrey : ByteArray := prog_6_method_12_code
def yX4_trySetGrey : MethodName := ⟨RX4, "trySetGrey", "(III)Z"⟩
abbrev cX4_fillBox : ByteArray := prog_6_method_13_code
def yX4_fillBox : MethodName := ⟨RX4, "fillBox", "(IIIII)I"⟩
abbrev cX4_tryFillBox : ByteArray := prog_6_method_14_code
def yX4_tryFillBox : MethodName := ⟨RX4, "tryFillBox", "(IIIII)Z"⟩
abbrev cX4_hasThreshold : ByteArray := prog_6_method_15_code
def yX4_hasThreshold : MethodName := ⟨RX4, "hasThreshold", "(I)Z"⟩
abbrev cX4_indexOfThreshold : ByteArray := prog_6_method_16_code
def yX4_indexOfThreshold : MethodName := ⟨RX4, "indexOfThreshold", "(I)I"⟩
abbrev cX4_canChangeThreshold : ByteArray := prog_6_method_17_code
def yX4_canChangeThreshold : MethodName := ⟨RX4, "canChangeThreshold", "(IZ)Z"⟩
abbrev cX4_changeThreshold : ByteArray := prog_6_method_18_code
def yX4_changeThreshold : MethodName := ⟨RX4, "changeThreshold", "(IZ)I"⟩
abbrev cX4_tryChangeThreshold : ByteArray := prog_6_method_19_code
def yX4_tryChangeThreshold : MethodName := ⟨RX4, "tryChangeThreshold", "(IZ)Z"⟩
abbrev cX4_putThreshold : ByteArray := prog_6_method_20_code
def yX4_putThreshold : MethodName := ⟨RX4, "putThreshold", "(I)V"⟩
abbrev cX4_takeThreshold : ByteArray := prog_6_method_21_code
def yX4_takeThreshold : MethodName := ⟨RX4, "takeThreshold", "(I)V"⟩
abbrev cX4_shareThresholds : ByteArray := prog_6_method_22_code
def yX4_shareThresholds : MethodName := ⟨RX4, "shareThresholds", "(I)I"⟩
abbrev cX4_leastAbove : ByteArray := prog_6_method_23_code
def yX4_leastAbove : MethodName := ⟨RX4, "leastAbove", "(I)I"⟩
abbrev cX4_cellsBelow : ByteArray := prog_6_method_24_code
def yX4_cellsBelow : MethodName := ⟨RX4, "cellsBelow", "(I)I"⟩
abbrev cX4_bandOfGrey : ByteArray := prog_6_method_25_code
def yX4_bandOfGrey : MethodName := ⟨RX4, "bandOfGrey", "(I)I"⟩
abbrev cX4_distanceToOtherBand : ByteArray := prog_6_method_26_code
def yX4_distanceToOtherBand : MethodName := ⟨RX4, "distanceToOtherBand", "(I)I"⟩
abbrev cX4_trySetLeast : ByteArray := prog_6_method_27_code
def yX4_trySetLeast : MethodName := ⟨RX4, "trySetLeast", "(I)Z"⟩
abbrev cX4_blurGreys : ByteArray := prog_6_method_28_code
def yX4_blurGreys : MethodName := ⟨RX4, "blurGreys", "([I)I"⟩
abbrev cX4_blurredGrey : ByteArray := prog_6_method_29_code
def yX4_blurredGrey : MethodName := ⟨RX4, "blurredGrey", "([III)I"⟩
abbrev cX4_invertGreys : ByteArray := prog_6_method_30_code
def yX4_invertGreys : MethodName := ⟨RX4, "invertGreys", "()Z"⟩
abbrev cX4_spreadGreys : ByteArray := prog_6_method_31_code
def yX4_spreadGreys : MethodName := ⟨RX4, "spreadGreys", "(I)I"⟩
abbrev cX4_spreadOut : ByteArray := prog_6_method_32_code
def yX4_spreadOut : MethodName := ⟨RX4, "spreadOut", "(II)I"⟩
abbrev cX4_trySpread : ByteArray := prog_6_method_33_code
def yX4_trySpread : MethodName := ⟨RX4, "trySpread", "(I)Z"⟩
abbrev cX4_addNoise : ByteArray := prog_6_method_34_code
def yX4_addNoise : MethodName := ⟨RX4, "addNoise", "(JI)I"⟩
def RX5 : String := "BandEngraver$Text"
def TX5 : u_T := fun k => match k with
  | 0 => ("BandEngraver$Text", "signs", "[I", true)
  | _ => ("BandEngraver$Text", "length", "I", false)
def tyX5 : Nat → FieldType := fun k => match k with
  | 0 => .array .int
  | _ => .int
theorem nmX5 : ∀ a, a < 2 → ∀ b, b < 2 → a ≠ b → (TX5 a).2.1 ≠ (TX5 b).2.1 := by decide +kernel
theorem tyX5_ok : ∀ k, k < 2 → parseFieldDescriptor (TX5 k).2.2.1 = some (tyX5 k) := by decide +kernel
abbrev cX5_init : ByteArray := prog_7_method_1_code
def yX5_init : MethodName := ⟨RX5, "<init>", "()V"⟩
abbrev cX5_isFull : ByteArray := prog_7_method_2_code
def yX5_isFull : MethodName := ⟨RX5, "isFull", "()Z"⟩
abbrev cX5_add : ByteArray := prog_7_method_3_code
def yX5_add : MethodName := ⟨RX5, "add", "(I)I"⟩
abbrev cX5_empty : ByteArray := prog_7_method_4_code
def yX5_empty : MethodName := ⟨RX5, "empty", "()I"⟩
abbrev cX5_signAt : ByteArray := prog_7_method_5_code
def yX5_signAt : MethodName := ⟨RX5, "signAt", "(I)I"⟩
abbrev cX5_numberAt : ByteArray := prog_7_method_6_code
def yX5_numberAt : MethodName := ⟨RX5, "numberAt", "(I)I"⟩
abbrev cX5_wordEnd : ByteArray := prog_7_method_7_code
def yX5_wordEnd : MethodName := ⟨RX5, "wordEnd", "(I)I"⟩
abbrev cX5_firstError : ByteArray := prog_7_method_8_code
def yX5_firstError : MethodName := ⟨RX5, "firstError", "()I"⟩
abbrev cX5_errorInWord : ByteArray := prog_7_method_9_code
def yX5_errorInWord : MethodName := ⟨RX5, "errorInWord", "(IZ)I"⟩
abbrev cX5_isDigitAllowed : ByteArray := prog_7_method_10_code
def yX5_isDigitAllowed : MethodName := ⟨RX5, "isDigitAllowed", "(III)Z"⟩
abbrev cX5_numbersOf : ByteArray := prog_7_method_11_code
def yX5_numbersOf : MethodName := ⟨RX5, "numbersOf", "(I)I"⟩
abbrev cX5_lowestNumber : ByteArray := prog_7_method_12_code
def yX5_lowestNumber : MethodName := ⟨RX5, "lowestNumber", "(I)I"⟩
abbrev cX5_highestNumber : ByteArray := prog_7_method_13_code
def yX5_highestNumber : MethodName := ⟨RX5, "highestNumber", "(II)I"⟩
def RX6 : String := "BandEngraver"
def TX6 : u_T := fun k => match k with
  | 0 => ("BandEngraver", "text", "LBandEngraver$Text;", true)
  | 1 => ("BandEngraver", "state", "LBandEngraver$State;", true)
  | 2 => ("BandEngraver", "memory", "LBandEngraver$Memory;", true)
  | 3 => ("BandEngraver", "slots", "[LBandEngraver$State;", true)
  | 4 => ("BandEngraver", "saved", "[Z", true)
  | 5 => ("BandEngraver", "islands", "LBandEngraver$Islands;", true)
  | 6 => ("BandEngraver", "nest", "LBandEngraver$Nest;", true)
  | 7 => ("BandEngraver", "islandsKnown", "Z", false)
  | 8 => ("BandEngraver", "nestKnown", "Z", false)
  | 9 => ("BandEngraver", "trial", "LBandEngraver$State;", true)
  | 10 => ("BandEngraver", "trialIslands", "LBandEngraver$Islands;", true)
  | 11 => ("BandEngraver", "contour", "LBandEngraver$Outline;", true)
  | _ => ("BandEngraver", "greysBefore", "[I", true)
def tyX6 : Nat → FieldType := fun k => match k with
  | 0 => .object "BandEngraver$Text"
  | 1 => .object "BandEngraver$State"
  | 2 => .object "BandEngraver$Memory"
  | 3 => .array (.object "BandEngraver$State")
  | 4 => .array .boolean
  | 5 => .object "BandEngraver$Islands"
  | 6 => .object "BandEngraver$Nest"
  | 7 => .boolean
  | 8 => .boolean
  | 9 => .object "BandEngraver$State"
  | 10 => .object "BandEngraver$Islands"
  | 11 => .object "BandEngraver$Outline"
  | _ => .array .int
theorem nmX6 : ∀ a, a < 13 → ∀ b, b < 13 → a ≠ b → (TX6 a).2.1 ≠ (TX6 b).2.1 := by decide +kernel
theorem tyX6_ok : ∀ k, k < 13 → parseFieldDescriptor (TX6 k).2.2.1 = some (tyX6 k) := by decide +kernel
abbrev cX6_init : ByteArray := prog_1_method_1_code
def yX6_init : MethodName := ⟨RX6, "<init>", "()V"⟩
abbrev cX6_append : ByteArray := prog_1_method_2_code
def yX6_append : MethodName := ⟨RX6, "append", "(I)I"⟩
abbrev cX6_clearText : ByteArray := prog_1_method_3_code
def yX6_clearText : MethodName := ⟨RX6, "clearText", "()I"⟩
abbrev cX6_errorPosition : ByteArray := prog_1_method_4_code
def yX6_errorPosition : MethodName := ⟨RX6, "errorPosition", "()I"⟩
abbrev cX6_load : ByteArray := prog_1_method_5_code
def yX6_load : MethodName := ⟨RX6, "load", "()I"⟩
abbrev cX6_obeysWord : ByteArray := prog_1_method_6_code
def yX6_obeysWord : MethodName := ⟨RX6, "obeysWord", "(I)Z"⟩
abbrev cX6_about : ByteArray := prog_1_method_7_code
def yX6_about : MethodName := ⟨RX6, "about", "(I)I"⟩
abbrev cX6_cellOf : ByteArray := prog_1_method_8_code
def yX6_cellOf : MethodName := ⟨RX6, "cellOf", "(III)I"⟩
abbrev cX6_thresholdAt : ByteArray := prog_1_method_9_code
def yX6_thresholdAt : MethodName := ⟨RX6, "thresholdAt", "(I)I"⟩
abbrev cX6_island : ByteArray := prog_1_method_10_code
def yX6_island : MethodName := ⟨RX6, "island", "(II)I"⟩
abbrev cX6_border : ByteArray := prog_1_method_11_code
def yX6_border : MethodName := ⟨RX6, "border", "(II)I"⟩
abbrev cX6_outline : ByteArray := prog_1_method_12_code
def yX6_outline : MethodName := ⟨RX6, "outline", "(II)I"⟩
abbrev cX6_outlineWay : ByteArray := prog_1_method_13_code
def yX6_outlineWay : MethodName := ⟨RX6, "outlineWay", "(II)I"⟩
abbrev cX6_band : ByteArray := prog_1_method_14_code
def yX6_band : MethodName := ⟨RX6, "band", "(II)I"⟩
abbrev cX6_ink : ByteArray := prog_1_method_15_code
def yX6_ink : MethodName := ⟨RX6, "ink", "()I"⟩
abbrev cX6_plate : ByteArray := prog_1_method_16_code
def yX6_plate : MethodName := ⟨RX6, "plate", "(II)I"⟩
abbrev cX6_cell : ByteArray := prog_1_method_17_code
def yX6_cell : MethodName := ⟨RX6, "cell", "(III)I"⟩
abbrev cX6_box : ByteArray := prog_1_method_18_code
def yX6_box : MethodName := ⟨RX6, "box", "(IIIII)I"⟩
abbrev cX6_threshold : ByteArray := prog_1_method_19_code
def yX6_threshold : MethodName := ⟨RX6, "threshold", "(IZ)I"⟩
abbrev cX6_share : ByteArray := prog_1_method_20_code
def yX6_share : MethodName := ⟨RX6, "share", "(I)I"⟩
abbrev cX6_least : ByteArray := prog_1_method_21_code
def yX6_least : MethodName := ⟨RX6, "least", "(I)I"⟩
abbrev cX6_hatch : ByteArray := prog_1_method_22_code
def yX6_hatch : MethodName := ⟨RX6, "hatch", "(II)I"⟩
abbrev cX6_line : ByteArray := prog_1_method_23_code
def yX6_line : MethodName := ⟨RX6, "line", "(I)I"⟩
abbrev cX6_blur : ByteArray := prog_1_method_24_code
def yX6_blur : MethodName := ⟨RX6, "blur", "()I"⟩
abbrev cX6_invert : ByteArray := prog_1_method_25_code
def yX6_invert : MethodName := ⟨RX6, "invert", "()I"⟩
abbrev cX6_spread : ByteArray := prog_1_method_26_code
def yX6_spread : MethodName := ⟨RX6, "spread", "(I)I"⟩
abbrev cX6_noise : ByteArray := prog_1_method_27_code
def yX6_noise : MethodName := ⟨RX6, "noise", "(JI)I"⟩
abbrev cX6_undo : ByteArray := prog_1_method_28_code
def yX6_undo : MethodName := ⟨RX6, "undo", "()I"⟩
abbrev cX6_beginAction : ByteArray := prog_1_method_29_code
def yX6_beginAction : MethodName := ⟨RX6, "beginAction", "()V"⟩
abbrev cX6_ifLeast : ByteArray := prog_1_method_30_code
def yX6_ifLeast : MethodName := ⟨RX6, "ifLeast", "(II)I"⟩
abbrev cX6_leastFor : ByteArray := prog_1_method_31_code
def yX6_leastFor : MethodName := ⟨RX6, "leastFor", "(I)I"⟩
abbrev cX6_bestMove : ByteArray := prog_1_method_32_code
def yX6_bestMove : MethodName := ⟨RX6, "bestMove", "(I)I"⟩
abbrev cX6_ifCell : ByteArray := prog_1_method_33_code
def yX6_ifCell : MethodName := ⟨RX6, "ifCell", "(IIII)I"⟩
abbrev cX6_runScript : ByteArray := prog_1_method_34_code
def yX6_runScript : MethodName := ⟨RX6, "runScript", "(IJ)I"⟩
abbrev cX6_obeysGroup : ByteArray := prog_1_method_35_code
def yX6_obeysGroup : MethodName := ⟨RX6, "obeysGroup", "(I)Z"⟩
abbrev cX6_holdsGroup : ByteArray := prog_1_method_36_code
def yX6_holdsGroup : MethodName := ⟨RX6, "holdsGroup", "(I)Z"⟩
abbrev cX6_simulate : ByteArray := prog_1_method_37_code
def yX6_simulate : MethodName := ⟨RX6, "simulate", "(JI)I"⟩
abbrev cX6_takeTurn : ByteArray := prog_1_method_38_code
def yX6_takeTurn : MethodName := ⟨RX6, "takeTurn", "(I)V"⟩
abbrev cX6_save : ByteArray := prog_1_method_39_code
def yX6_save : MethodName := ⟨RX6, "save", "(I)I"⟩
abbrev cX6_restore : ByteArray := prog_1_method_40_code
def yX6_restore : MethodName := ⟨RX6, "restore", "(I)I"⟩
abbrev cX6_present : ByteArray := prog_1_method_41_code
def yX6_present : MethodName := ⟨RX6, "present", "()LBandEngraver$Islands;"⟩
abbrev cX6_presentNest : ByteArray := prog_1_method_42_code
def yX6_presentNest : MethodName := ⟨RX6, "presentNest", "()LBandEngraver$Nest;"⟩
abbrev cX6_forgetFindings : ByteArray := prog_1_method_43_code
def yX6_forgetFindings : MethodName := ⟨RX6, "forgetFindings", "()V"⟩
abbrev cX6_isWithin : ByteArray := prog_1_method_44_code
def yX6_isWithin : MethodName := ⟨RX6, "isWithin", "(III)Z"⟩
abbrev cX6_mustBeWithin : ByteArray := prog_1_method_45_code
def yX6_mustBeWithin : MethodName := ⟨RX6, "mustBeWithin", "(III)V"⟩
abbrev cX6_mustExist : ByteArray := prog_1_method_46_code
def yX6_mustExist : MethodName := ⟨RX6, "mustExist", "(Z)V"⟩
def RX7 : String := "BandEngraverModel"
def TX7 : u_T := fun k => match k with
  | 0 => ("BandEngraverModel", "refusal", "I", false)
  | 1 => ("BandEngraverModel", "text", "[I", true)
  | 2 => ("BandEngraverModel", "size", "I", false)
  | 3 => ("BandEngraverModel", "now", "[I", true)
  | 4 => ("BandEngraverModel", "trial", "[I", true)
  | 5 => ("BandEngraverModel", "diary", "[I", true)
  | 6 => ("BandEngraverModel", "acts", "I", false)
  | 7 => ("BandEngraverModel", "kept", "[I", true)
  | 8 => ("BandEngraverModel", "isKept", "[Z", true)
  | 9 => ("BandEngraverModel", "bands", "[I", true)
  | 10 => ("BandEngraverModel", "isles", "[I", true)
  | 11 => ("BandEngraverModel", "many", "I", false)
  | 12 => ("BandEngraverModel", "firsts", "[I", true)
  | 13 => ("BandEngraverModel", "counts", "[I", true)
  | 14 => ("BandEngraverModel", "borders", "[I", true)
  | 15 => ("BandEngraverModel", "waits", "[I", true)
  | 16 => ("BandEngraverModel", "marks", "[I", true)
  | 17 => ("BandEngraverModel", "greys", "[I", true)
  | 18 => ("BandEngraverModel", "earlier", "[I", true)
  | 19 => ("BandEngraverModel", "sides", "I", false)
  | 20 => ("BandEngraverModel", "rights", "I", false)
  | 21 => ("BandEngraverModel", "lefts", "I", false)
  | 22 => ("BandEngraverModel", "wayThere", "I", false)
  | 23 => ("BandEngraverModel", "spot", "I", false)
  | _ => ("BandEngraverModel", "out", "I", false)
def tyX7 : Nat → FieldType := fun k => match k with
  | 0 => .int
  | 1 => .array .int
  | 2 => .int
  | 3 => .array .int
  | 4 => .array .int
  | 5 => .array .int
  | 6 => .int
  | 7 => .array .int
  | 8 => .array .boolean
  | 9 => .array .int
  | 10 => .array .int
  | 11 => .int
  | 12 => .array .int
  | 13 => .array .int
  | 14 => .array .int
  | 15 => .array .int
  | 16 => .array .int
  | 17 => .array .int
  | 18 => .array .int
  | 19 => .int
  | 20 => .int
  | 21 => .int
  | 22 => .int
  | 23 => .int
  | _ => .int
theorem nmX7 : ∀ a, a < 25 → ∀ b, b < 25 → a ≠ b → (TX7 a).2.1 ≠ (TX7 b).2.1 := by decide +kernel
theorem tyX7_ok : ∀ k, k < 25 → parseFieldDescriptor (TX7 k).2.2.1 = some (tyX7 k) := by decide +kernel
abbrev cX7_init : ByteArray := prog_9_method_1_code
def yX7_init : MethodName := ⟨RX7, "<init>", "()V"⟩
abbrev cX7_thrown : ByteArray := prog_9_method_2_code
def yX7_thrown : MethodName := ⟨RX7, "thrown", "()I"⟩
abbrev cX7_refused : ByteArray := prog_9_method_3_code
def yX7_refused : MethodName := ⟨RX7, "refused", "(I)Z"⟩
abbrev cX7_in : ByteArray := prog_9_method_4_code
def yX7_in : MethodName := ⟨RX7, "in", "(JJJ)Z"⟩
abbrev cX7_copyState : ByteArray := prog_9_method_5_code
def yX7_copyState : MethodName := ⟨RX7, "copyState", "([II[II)V"⟩
abbrev cX7_clear : ByteArray := prog_9_method_6_code
def yX7_clear : MethodName := ⟨RX7, "clear", "([III)V"⟩
abbrev cX7_firstSettings : ByteArray := prog_9_method_7_code
def yX7_firstSettings : MethodName := ⟨RX7, "firstSettings", "([I)V"⟩
abbrev cX7_cells : ByteArray := prog_9_method_8_code
def yX7_cells : MethodName := ⟨RX7, "cells", "([I)I"⟩
abbrev cX7_isColumn : ByteArray := prog_9_method_9_code
def yX7_isColumn : MethodName := ⟨RX7, "isColumn", "([II)Z"⟩
abbrev cX7_isRow : ByteArray := prog_9_method_10_code
def yX7_isRow : MethodName := ⟨RX7, "isRow", "([II)Z"⟩
abbrev cX7_isGrey : ByteArray := prog_9_method_11_code
def yX7_isGrey : MethodName := ⟨RX7, "isGrey", "(I)Z"⟩
abbrev cX7_isPart : ByteArray := prog_9_method_12_code
def yX7_isPart : MethodName := ⟨RX7, "isPart", "(I)Z"⟩
abbrev cX7_at : ByteArray := prog_9_method_13_code
def yX7_at : MethodName := ⟨RX7, "at", "([III)I"⟩
abbrev cX7_sum : ByteArray := prog_9_method_14_code
def yX7_sum : MethodName := ⟨RX7, "sum", "([I)I"⟩
abbrev cX7_bandOf : ByteArray := prog_9_method_15_code
def yX7_bandOf : MethodName := ⟨RX7, "bandOf", "([II)I"⟩
abbrev cX7_next : ByteArray := prog_9_method_16_code
def yX7_next : MethodName := ⟨RX7, "next", "([III)I"⟩
abbrev cX7_flood : ByteArray := prog_9_method_17_code
def yX7_flood : MethodName := ⟨RX7, "flood", "([II)V"⟩
abbrev cX7_mark : ByteArray := prog_9_method_18_code
def yX7_mark : MethodName := ⟨RX7, "mark", "([I)V"⟩
abbrev cX7_markGreys : ByteArray := prog_9_method_19_code
def yX7_markGreys : MethodName := ⟨RX7, "markGreys", "([I)V"⟩
abbrev cX7_meet : ByteArray := prog_9_method_20_code
def yX7_meet : MethodName := ⟨RX7, "meet", "([II)V"⟩
abbrev cX7_bandOfIsle : ByteArray := prog_9_method_21_code
def yX7_bandOfIsle : MethodName := ⟨RX7, "bandOfIsle", "(I)I"⟩
abbrev cX7_isBetter : ByteArray := prog_9_method_22_code
def yX7_isBetter : MethodName := ⟨RX7, "isBetter", "(III)Z"⟩
abbrev cX7_smallest : ByteArray := prog_9_method_23_code
def yX7_smallest : MethodName := ⟨RX7, "smallest", "(I)I"⟩
abbrev cX7_find : ByteArray := prog_9_method_24_code
def yX7_find : MethodName := ⟨RX7, "find", "([II)V"⟩
abbrev cX7_findAs : ByteArray := prog_9_method_25_code
def yX7_findAs : MethodName := ⟨RX7, "findAs", "([I)V"⟩
abbrev cX7_otherBands : ByteArray := prog_9_method_26_code
def yX7_otherBands : MethodName := ⟨RX7, "otherBands", "([I)I"⟩
abbrev cX7_sidesOf : ByteArray := prog_9_method_27_code
def yX7_sidesOf : MethodName := ⟨RX7, "sidesOf", "([II)I"⟩
abbrev cX7_allSides : ByteArray := prog_9_method_28_code
def yX7_allSides : MethodName := ⟨RX7, "allSides", "([I)I"⟩
abbrev cX7_inkOf : ByteArray := prog_9_method_29_code
def yX7_inkOf : MethodName := ⟨RX7, "inkOf", "([I)I"⟩
abbrev cX7_floodHole : ByteArray := prog_9_method_30_code
def yX7_floodHole : MethodName := ⟨RX7, "floodHole", "([III)Z"⟩
abbrev cX7_noMarks : ByteArray := prog_9_method_31_code
def yX7_noMarks : MethodName := ⟨RX7, "noMarks", "()V"⟩
abbrev cX7_holes : ByteArray := prog_9_method_32_code
def yX7_holes : MethodName := ⟨RX7, "holes", "([II)I"⟩
abbrev cX7_liesIn : ByteArray := prog_9_method_33_code
def yX7_liesIn : MethodName := ⟨RX7, "liesIn", "([III)Z"⟩
abbrev cX7_motherOf : ByteArray := prog_9_method_34_code
def yX7_motherOf : MethodName := ⟨RX7, "motherOf", "([II)I"⟩
abbrev cX7_inIt : ByteArray := prog_9_method_35_code
def yX7_inIt : MethodName := ⟨RX7, "inIt", "([II)I"⟩
abbrev cX7_isOf : ByteArray := prog_9_method_36_code
def yX7_isOf : MethodName := ⟨RX7, "isOf", "([IIII)Z"⟩
abbrev cX7_walk : ByteArray := prog_9_method_37_code
def yX7_walk : MethodName := ⟨RX7, "walk", "([III)V"⟩
abbrev cX7_cellOn : ByteArray := prog_9_method_38_code
def yX7_cellOn : MethodName := ⟨RX7, "cellOn", "([III)I"⟩
abbrev cX7_canBox : ByteArray := prog_9_method_39_code
def yX7_canBox : MethodName := ⟨RX7, "canBox", "([IIIII)Z"⟩
abbrev cX7_boxOn : ByteArray := prog_9_method_40_code
def yX7_boxOn : MethodName := ⟨RX7, "boxOn", "([IIIIII)I"⟩
abbrev cX7_placeOf : ByteArray := prog_9_method_41_code
def yX7_placeOf : MethodName := ⟨RX7, "placeOf", "([II)I"⟩
abbrev cX7_isThere : ByteArray := prog_9_method_42_code
def yX7_isThere : MethodName := ⟨RX7, "isThere", "([II)Z"⟩
abbrev cX7_canPart : ByteArray := prog_9_method_43_code
def yX7_canPart : MethodName := ⟨RX7, "canPart", "([IIZ)Z"⟩
abbrev cX7_partOn : ByteArray := prog_9_method_44_code
def yX7_partOn : MethodName := ⟨RX7, "partOn", "([IIZ)I"⟩
abbrev cX7_below : ByteArray := prog_9_method_45_code
def yX7_below : MethodName := ⟨RX7, "below", "([II)I"⟩
abbrev cX7_shareOn : ByteArray := prog_9_method_46_code
def yX7_shareOn : MethodName := ⟨RX7, "shareOn", "([II)I"⟩
abbrev cX7_takeOver : ByteArray := prog_9_method_47_code
def yX7_takeOver : MethodName := ⟨RX7, "takeOver", "([I)I"⟩
abbrev cX7_blurOn : ByteArray := prog_9_method_48_code
def yX7_blurOn : MethodName := ⟨RX7, "blurOn", "([I)I"⟩
abbrev cX7_invertOn : ByteArray := prog_9_method_49_code
def yX7_invertOn : MethodName := ⟨RX7, "invertOn", "([I)I"⟩
abbrev cX7_held : ByteArray := prog_9_method_50_code
def yX7_held : MethodName := ⟨RX7, "held", "(I)I"⟩
abbrev cX7_spreadOn : ByteArray := prog_9_method_51_code
def yX7_spreadOn : MethodName := ⟨RX7, "spreadOn", "([II)I"⟩
abbrev cX7_noiseOn : ByteArray := prog_9_method_52_code
def yX7_noiseOn : MethodName := ⟨RX7, "noiseOn", "([IJI)I"⟩
abbrev cX7_append : ByteArray := prog_9_method_53_code
def yX7_append : MethodName := ⟨RX7, "append", "(I)I"⟩
abbrev cX7_clearText : ByteArray := prog_9_method_54_code
def yX7_clearText : MethodName := ⟨RX7, "clearText", "()I"⟩
abbrev cX7_figures : ByteArray := prog_9_method_55_code
def yX7_figures : MethodName := ⟨RX7, "figures", "(III)I"⟩
abbrev cX7_done : ByteArray := prog_9_method_56_code
def yX7_done : MethodName := ⟨RX7, "done", "(Z)Z"⟩
abbrev cX7_readBox : ByteArray := prog_9_method_57_code
def yX7_readBox : MethodName := ⟨RX7, "readBox", "([I)Z"⟩
abbrev cX7_readCell : ByteArray := prog_9_method_58_code
def yX7_readCell : MethodName := ⟨RX7, "readCell", "([I)Z"⟩
abbrev cX7_readCommand : ByteArray := prog_9_method_59_code
def yX7_readCommand : MethodName := ⟨RX7, "readCommand", "([I)Z"⟩
abbrev cX7_readText : ByteArray := prog_9_method_60_code
def yX7_readText : MethodName := ⟨RX7, "readText", "([I)I"⟩
abbrev cX7_errorPosition : ByteArray := prog_9_method_61_code
def yX7_errorPosition : MethodName := ⟨RX7, "errorPosition", "()I"⟩
abbrev cX7_load : ByteArray := prog_9_method_62_code
def yX7_load : MethodName := ⟨RX7, "load", "()I"⟩
abbrev cX7_about : ByteArray := prog_9_method_63_code
def yX7_about : MethodName := ⟨RX7, "about", "(I)I"⟩
abbrev cX7_toOther : ByteArray := prog_9_method_64_code
def yX7_toOther : MethodName := ⟨RX7, "toOther", "([II)I"⟩
abbrev cX7_cellOf : ByteArray := prog_9_method_65_code
def yX7_cellOf : MethodName := ⟨RX7, "cellOf", "(III)I"⟩
abbrev cX7_thresholdAt : ByteArray := prog_9_method_66_code
def yX7_thresholdAt : MethodName := ⟨RX7, "thresholdAt", "(I)I"⟩
abbrev cX7_isIsle : ByteArray := prog_9_method_67_code
def yX7_isIsle : MethodName := ⟨RX7, "isIsle", "(I)Z"⟩
abbrev cX7_sidesOfIsle : ByteArray := prog_9_method_68_code
def yX7_sidesOfIsle : MethodName := ⟨RX7, "sidesOfIsle", "(IZ)I"⟩
abbrev cX7_near : ByteArray := prog_9_method_69_code
def yX7_near : MethodName := ⟨RX7, "near", "(I)I"⟩
abbrev cX7_island : ByteArray := prog_9_method_70_code
def yX7_island : MethodName := ⟨RX7, "island", "(II)I"⟩
abbrev cX7_border : ByteArray := prog_9_method_71_code
def yX7_border : MethodName := ⟨RX7, "border", "(II)I"⟩
abbrev cX7_outline : ByteArray := prog_9_method_72_code
def yX7_outline : MethodName := ⟨RX7, "outline", "(II)I"⟩
abbrev cX7_outlineWay : ByteArray := prog_9_method_73_code
def yX7_outlineWay : MethodName := ⟨RX7, "outlineWay", "(II)I"⟩
abbrev cX7_band : ByteArray := prog_9_method_74_code
def yX7_band : MethodName := ⟨RX7, "band", "(II)I"⟩
abbrev cX7_ink : ByteArray := prog_9_method_75_code
def yX7_ink : MethodName := ⟨RX7, "ink", "()I"⟩
abbrev cX7_remember : ByteArray := prog_9_method_76_code
def yX7_remember : MethodName := ⟨RX7, "remember", "()V"⟩
abbrev cX7_plate : ByteArray := prog_9_method_77_code
def yX7_plate : MethodName := ⟨RX7, "plate", "(II)I"⟩
abbrev cX7_cell : ByteArray := prog_9_method_78_code
def yX7_cell : MethodName := ⟨RX7, "cell", "(III)I"⟩
abbrev cX7_box : ByteArray := prog_9_method_79_code
def yX7_box : MethodName := ⟨RX7, "box", "(IIIII)I"⟩
abbrev cX7_threshold : ByteArray := prog_9_method_80_code
def yX7_threshold : MethodName := ⟨RX7, "threshold", "(IZ)I"⟩
abbrev cX7_share : ByteArray := prog_9_method_81_code
def yX7_share : MethodName := ⟨RX7, "share", "(I)I"⟩
abbrev cX7_change : ByteArray := prog_9_method_82_code
def yX7_change : MethodName := ⟨RX7, "change", "(II)I"⟩
abbrev cX7_least : ByteArray := prog_9_method_83_code
def yX7_least : MethodName := ⟨RX7, "least", "(I)I"⟩
abbrev cX7_hatch : ByteArray := prog_9_method_84_code
def yX7_hatch : MethodName := ⟨RX7, "hatch", "(II)I"⟩
abbrev cX7_line : ByteArray := prog_9_method_85_code
def yX7_line : MethodName := ⟨RX7, "line", "(I)I"⟩
abbrev cX7_blur : ByteArray := prog_9_method_86_code
def yX7_blur : MethodName := ⟨RX7, "blur", "()I"⟩
abbrev cX7_invert : ByteArray := prog_9_method_87_code
def yX7_invert : MethodName := ⟨RX7, "invert", "()I"⟩
abbrev cX7_spread : ByteArray := prog_9_method_88_code
def yX7_spread : MethodName := ⟨RX7, "spread", "(I)I"⟩
abbrev cX7_noise : ByteArray := prog_9_method_89_code
def yX7_noise : MethodName := ⟨RX7, "noise", "(JI)I"⟩
abbrev cX7_undo : ByteArray := prog_9_method_90_code
def yX7_undo : MethodName := ⟨RX7, "undo", "()I"⟩
abbrev cX7_ifLeast : ByteArray := prog_9_method_91_code
def yX7_ifLeast : MethodName := ⟨RX7, "ifLeast", "(II)I"⟩
abbrev cX7_leastFor : ByteArray := prog_9_method_92_code
def yX7_leastFor : MethodName := ⟨RX7, "leastFor", "(I)I"⟩
abbrev cX7_bestMove : ByteArray := prog_9_method_93_code
def yX7_bestMove : MethodName := ⟨RX7, "bestMove", "(I)I"⟩
abbrev cX7_ifCell : ByteArray := prog_9_method_94_code
def yX7_ifCell : MethodName := ⟨RX7, "ifCell", "(IIII)I"⟩
abbrev cX7_paints : ByteArray := prog_9_method_95_code
def yX7_paints : MethodName := ⟨RX7, "paints", "(III)Z"⟩
abbrev cX7_boxes : ByteArray := prog_9_method_96_code
def yX7_boxes : MethodName := ⟨RX7, "boxes", "(IIIII)Z"⟩
abbrev cX7_parts : ByteArray := prog_9_method_97_code
def yX7_parts : MethodName := ⟨RX7, "parts", "(IZ)Z"⟩
abbrev cX7_setsLeast : ByteArray := prog_9_method_98_code
def yX7_setsLeast : MethodName := ⟨RX7, "setsLeast", "(I)Z"⟩
abbrev cX7_command : ByteArray := prog_9_method_99_code
def yX7_command : MethodName := ⟨RX7, "command", "(II)Z"⟩
abbrev cX7_runScript : ByteArray := prog_9_method_100_code
def yX7_runScript : MethodName := ⟨RX7, "runScript", "(IJ)I"⟩
abbrev cX7_turn : ByteArray := prog_9_method_101_code
def yX7_turn : MethodName := ⟨RX7, "turn", "(I)V"⟩
abbrev cX7_simulate : ByteArray := prog_9_method_102_code
def yX7_simulate : MethodName := ⟨RX7, "simulate", "(JI)I"⟩
abbrev cX7_save : ByteArray := prog_9_method_103_code
def yX7_save : MethodName := ⟨RX7, "save", "(I)I"⟩
abbrev cX7_restore : ByteArray := prog_9_method_104_code
def yX7_restore : MethodName := ⟨RX7, "restore", "(I)I"⟩
def RL : String := "BandEngraverLaw"
abbrev cL_append : ByteArray := method_3_code
def yL_append : MethodName := ⟨RL, "append", "(LBandEngraver;I[J)I"⟩
abbrev cL_load : ByteArray := method_4_code
def yL_load : MethodName := ⟨RL, "load", "(LBandEngraver;[J)I"⟩
abbrev cL_about : ByteArray := method_5_code
def yL_about : MethodName := ⟨RL, "about", "(LBandEngraver;I[J)I"⟩
abbrev cL_cellOf : ByteArray := method_6_code
def yL_cellOf : MethodName := ⟨RL, "cellOf", "(LBandEngraver;III[J)I"⟩
abbrev cL_thresholdAt : ByteArray := method_7_code
def yL_thresholdAt : MethodName := ⟨RL, "thresholdAt", "(LBandEngraver;I[J)I"⟩
abbrev cL_island : ByteArray := method_8_code
def yL_island : MethodName := ⟨RL, "island", "(LBandEngraver;II[J)I"⟩
abbrev cL_border : ByteArray := method_9_code
def yL_border : MethodName := ⟨RL, "border", "(LBandEngraver;II[J)I"⟩
abbrev cL_outline : ByteArray := method_10_code
def yL_outline : MethodName := ⟨RL, "outline", "(LBandEngraver;II[J)I"⟩
abbrev cL_outlineWay : ByteArray := method_11_code
def yL_outlineWay : MethodName := ⟨RL, "outlineWay", "(LBandEngraver;II[J)I"⟩
abbrev cL_band : ByteArray := method_12_code
def yL_band : MethodName := ⟨RL, "band", "(LBandEngraver;II[J)I"⟩
abbrev cL_plate : ByteArray := method_13_code
def yL_plate : MethodName := ⟨RL, "plate", "(LBandEngraver;II[J)I"⟩
abbrev cL_cell : ByteArray := method_14_code
def yL_cell : MethodName := ⟨RL, "cell", "(LBandEngraver;III[J)I"⟩
abbrev cL_box : ByteArray := method_15_code
def yL_box : MethodName := ⟨RL, "box", "(LBandEngraver;IIIII[J)I"⟩
abbrev cL_threshold : ByteArray := method_16_code
def yL_threshold : MethodName := ⟨RL, "threshold", "(LBandEngraver;IZ[J)I"⟩
abbrev cL_share : ByteArray := method_17_code
def yL_share : MethodName := ⟨RL, "share", "(LBandEngraver;I[J)I"⟩
abbrev cL_least : ByteArray := method_18_code
def yL_least : MethodName := ⟨RL, "least", "(LBandEngraver;I[J)I"⟩
abbrev cL_hatch : ByteArray := method_19_code
def yL_hatch : MethodName := ⟨RL, "hatch", "(LBandEngraver;II[J)I"⟩
abbrev cL_line : ByteArray := method_20_code
def yL_line : MethodName := ⟨RL, "line", "(LBandEngraver;I[J)I"⟩
abbrev cL_spread : ByteArray := method_21_code
def yL_spread : MethodName := ⟨RL, "spread", "(LBandEngraver;I[J)I"⟩
abbrev cL_noise : ByteArray := method_22_code
def yL_noise : MethodName := ⟨RL, "noise", "(LBandEngraver;JI[J)I"⟩
abbrev cL_undo : ByteArray := method_23_code
def yL_undo : MethodName := ⟨RL, "undo", "(LBandEngraver;[J)I"⟩
abbrev cL_ifLeast : ByteArray := method_24_code
def yL_ifLeast : MethodName := ⟨RL, "ifLeast", "(LBandEngraver;II[J)I"⟩
abbrev cL_leastFor : ByteArray := method_25_code
def yL_leastFor : MethodName := ⟨RL, "leastFor", "(LBandEngraver;I[J)I"⟩
abbrev cL_bestMove : ByteArray := method_26_code
def yL_bestMove : MethodName := ⟨RL, "bestMove", "(LBandEngraver;I[J)I"⟩
abbrev cL_ifCell : ByteArray := method_27_code
def yL_ifCell : MethodName := ⟨RL, "ifCell", "(LBandEngraver;IIII[J)I"⟩
abbrev cL_runScript : ByteArray := method_28_code
def yL_runScript : MethodName := ⟨RL, "runScript", "(LBandEngraver;IJ[J)I"⟩
abbrev cL_simulate : ByteArray := method_29_code
def yL_simulate : MethodName := ⟨RL, "simulate", "(LBandEngraver;JI[J)I"⟩
abbrev cL_save : ByteArray := method_30_code
def yL_save : MethodName := ⟨RL, "save", "(LBandEngraver;I[J)I"⟩
abbrev cL_restore : ByteArray := method_31_code
def yL_restore : MethodName := ⟨RL, "restore", "(LBandEngraver;I[J)I"⟩
abbrev cL_law : ByteArray := code
def yL_law : MethodName := ⟨RL, "law", "([I)Z"⟩
abbrev classes : List vw_C := [(RX0, TX0, 11), (RX1, TX1, 3), (RX2, TX2, 5), (RX3, TX3, 4), (RX4, TX4, 8), (RX5, TX5, 2), (RX6, TX6, 13), (RX7, TX7, 25)]
