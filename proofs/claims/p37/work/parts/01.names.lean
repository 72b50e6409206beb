-- ===== PART A: goes FIRST, ahead of the names: the tables' words, and 'selects' of the private methods out of them =====
/-- a private method of a class that the tables say can be made, by its rows of tables_1 -/
def lw_okq (q : MethodName × Nat) : Prop := (q.1.cls ≠ "java/lang/invoke/MethodHandle" ∧ q.1.cls ≠ "java/lang/invoke/VarHandle") ∧ Cond.instantiable q.1.cls q.2 ∈ tables_1 ∧ Cond.privateMethod q.1 ∈ tables_1 ∧ Cond.instanceMethod q.1 ∈ tables_1
theorem lw_p0 : lw_okq (⟨"java/lang/Throwable", "fillInStackTrace", "(I)Ljava/lang/Throwable;"⟩, 6) := ⟨⟨by decide +kernel, by decide +kernel⟩, List.mem_of_getElem? (i := 313) (by decide +kernel), List.mem_of_getElem? (i := 311) (by decide +kernel), List.mem_of_getElem? (i := 312) (by decide +kernel)⟩
theorem lw_p1 : lw_okq (⟨"BandEngraver$Text", "errorInWord", "(IZ)I"⟩, 2) := ⟨⟨by decide +kernel, by decide +kernel⟩, List.mem_of_getElem? (i := 26) (by decide +kernel), List.mem_of_getElem? (i := 381) (by decide +kernel), List.mem_of_getElem? (i := 382) (by decide +kernel)⟩
theorem lw_p2 : lw_okq (⟨"BandEngraver$Text", "isDigitAllowed", "(III)Z"⟩, 2) := ⟨⟨by decide +kernel, by decide +kernel⟩, List.mem_of_getElem? (i := 26) (by decide +kernel), List.mem_of_getElem? (i := 399) (by decide +kernel), List.mem_of_getElem? (i := 400) (by decide +kernel)⟩
theorem lw_p3 : lw_okq (⟨"BandEngraver", "forgetFindings", "()V"⟩, 13) := ⟨⟨by decide +kernel, by decide +kernel⟩, List.mem_of_getElem? (i := 18) (by decide +kernel), List.mem_of_getElem? (i := 419) (by decide +kernel), List.mem_of_getElem? (i := 420) (by decide +kernel)⟩
theorem lw_p4 : lw_okq (⟨"BandEngraver", "obeysWord", "(I)Z"⟩, 13) := ⟨⟨by decide +kernel, by decide +kernel⟩, List.mem_of_getElem? (i := 18) (by decide +kernel), List.mem_of_getElem? (i := 426) (by decide +kernel), List.mem_of_getElem? (i := 427) (by decide +kernel)⟩
theorem lw_p5 : lw_okq (⟨"BandEngraver$State", "putThreshold", "(I)V"⟩, 8) := ⟨⟨by decide +kernel, by decide +kernel⟩, List.mem_of_getElem? (i := 41) (by decide +kernel), List.mem_of_getElem? (i := 472) (by decide +kernel), List.mem_of_getElem? (i := 473) (by decide +kernel)⟩
theorem lw_p6 : lw_okq (⟨"BandEngraver$State", "takeThreshold", "(I)V"⟩, 8) := ⟨⟨by decide +kernel, by decide +kernel⟩, List.mem_of_getElem? (i := 41) (by decide +kernel), List.mem_of_getElem? (i := 476) (by decide +kernel), List.mem_of_getElem? (i := 477) (by decide +kernel)⟩
theorem lw_p7 : lw_okq (⟨"BandEngraver$State", "blurredGrey", "([III)I"⟩, 8) := ⟨⟨by decide +kernel, by decide +kernel⟩, List.mem_of_getElem? (i := 41) (by decide +kernel), List.mem_of_getElem? (i := 506) (by decide +kernel), List.mem_of_getElem? (i := 507) (by decide +kernel)⟩
theorem lw_p8 : lw_okq (⟨"BandEngraver", "present", "()LBandEngraver$Islands;"⟩, 13) := ⟨⟨by decide +kernel, by decide +kernel⟩, List.mem_of_getElem? (i := 18) (by decide +kernel), List.mem_of_getElem? (i := 521) (by decide +kernel), List.mem_of_getElem? (i := 522) (by decide +kernel)⟩
theorem lw_p9 : lw_okq (⟨"BandEngraver$Islands", "gather", "(I)V"⟩, 11) := ⟨⟨by decide +kernel, by decide +kernel⟩, List.mem_of_getElem? (i := 115) (by decide +kernel), List.mem_of_getElem? (i := 534) (by decide +kernel), List.mem_of_getElem? (i := 535) (by decide +kernel)⟩
theorem lw_p10 : lw_okq (⟨"BandEngraver$Islands", "enqueue", "(II)I"⟩, 11) := ⟨⟨by decide +kernel, by decide +kernel⟩, List.mem_of_getElem? (i := 115) (by decide +kernel), List.mem_of_getElem? (i := 538) (by decide +kernel), List.mem_of_getElem? (i := 539) (by decide +kernel)⟩
theorem lw_p11 : lw_okq (⟨"BandEngraver$Islands", "neighbour", "(II)I"⟩, 11) := ⟨⟨by decide +kernel, by decide +kernel⟩, List.mem_of_getElem? (i := 115) (by decide +kernel), List.mem_of_getElem? (i := 545) (by decide +kernel), List.mem_of_getElem? (i := 546) (by decide +kernel)⟩
theorem lw_p12 : lw_okq (⟨"BandEngraver$Islands", "smallestBelow", "(I)I"⟩, 11) := ⟨⟨by decide +kernel, by decide +kernel⟩, List.mem_of_getElem? (i := 115) (by decide +kernel), List.mem_of_getElem? (i := 553) (by decide +kernel), List.mem_of_getElem? (i := 554) (by decide +kernel)⟩
theorem lw_p13 : lw_okq (⟨"BandEngraver$Islands", "takerOf", "(I)I"⟩, 11) := ⟨⟨by decide +kernel, by decide +kernel⟩, List.mem_of_getElem? (i := 115) (by decide +kernel), List.mem_of_getElem? (i := 557) (by decide +kernel), List.mem_of_getElem? (i := 558) (by decide +kernel)⟩
theorem lw_p14 : lw_okq (⟨"BandEngraver$Islands", "measureBorders", "(I)V"⟩, 11) := ⟨⟨by decide +kernel, by decide +kernel⟩, List.mem_of_getElem? (i := 115) (by decide +kernel), List.mem_of_getElem? (i := 561) (by decide +kernel), List.mem_of_getElem? (i := 562) (by decide +kernel)⟩
theorem lw_p15 : lw_okq (⟨"BandEngraver$Islands", "isBetterTaker", "(III)Z"⟩, 11) := ⟨⟨by decide +kernel, by decide +kernel⟩, List.mem_of_getElem? (i := 115) (by decide +kernel), List.mem_of_getElem? (i := 566) (by decide +kernel), List.mem_of_getElem? (i := 567) (by decide +kernel)⟩
def lw_privs_1 : List (MethodName × Nat) := [(⟨"java/lang/Throwable", "fillInStackTrace", "(I)Ljava/lang/Throwable;"⟩, 6), (⟨"BandEngraver$Text", "errorInWord", "(IZ)I"⟩, 2), (⟨"BandEngraver$Text", "isDigitAllowed", "(III)Z"⟩, 2), (⟨"BandEngraver", "forgetFindings", "()V"⟩, 13), (⟨"BandEngraver", "obeysWord", "(I)Z"⟩, 13), (⟨"BandEngraver$State", "putThreshold", "(I)V"⟩, 8), (⟨"BandEngraver$State", "takeThreshold", "(I)V"⟩, 8), (⟨"BandEngraver$State", "blurredGrey", "([III)I"⟩, 8), (⟨"BandEngraver", "present", "()LBandEngraver$Islands;"⟩, 13), (⟨"BandEngraver$Islands", "gather", "(I)V"⟩, 11), (⟨"BandEngraver$Islands", "enqueue", "(II)I"⟩, 11), (⟨"BandEngraver$Islands", "neighbour", "(II)I"⟩, 11), (⟨"BandEngraver$Islands", "smallestBelow", "(I)I"⟩, 11), (⟨"BandEngraver$Islands", "takerOf", "(I)I"⟩, 11), (⟨"BandEngraver$Islands", "measureBorders", "(I)V"⟩, 11), (⟨"BandEngraver$Islands", "isBetterTaker", "(III)Z"⟩, 11)]
theorem lw_r1 : ∀ q ∈ lw_privs_1, lw_okq q := List.forall_mem_cons.mpr ⟨lw_p0, List.forall_mem_cons.mpr ⟨lw_p1, List.forall_mem_cons.mpr ⟨lw_p2, List.forall_mem_cons.mpr ⟨lw_p3, List.forall_mem_cons.mpr ⟨lw_p4, List.forall_mem_cons.mpr ⟨lw_p5, List.forall_mem_cons.mpr ⟨lw_p6, List.forall_mem_cons.mpr ⟨lw_p7, List.forall_mem_cons.mpr ⟨lw_p8, List.forall_mem_cons.mpr ⟨lw_p9, List.forall_mem_cons.mpr ⟨lw_p10, List.forall_mem_cons.mpr ⟨lw_p11, List.forall_mem_cons.mpr ⟨lw_p12, List.forall_mem_cons.mpr ⟨lw_p13, List.forall_mem_cons.mpr ⟨lw_p14, List.forall_mem_cons.mpr ⟨lw_p15, fun _ h => absurd h List.not_mem_nil⟩⟩⟩⟩⟩⟩⟩⟩⟩⟩⟩⟩⟩⟩⟩⟩
theorem lw_p16 : lw_okq (⟨"BandEngraver$Islands", "giveNumbers", "()V"⟩, 11) := ⟨⟨by decide +kernel, by decide +kernel⟩, List.mem_of_getElem? (i := 115) (by decide +kernel), List.mem_of_getElem? (i := 573) (by decide +kernel), List.mem_of_getElem? (i := 574) (by decide +kernel)⟩
theorem lw_p17 : lw_okq (⟨"BandEngraver", "presentNest", "()LBandEngraver$Nest;"⟩, 13) := ⟨⟨by decide +kernel, by decide +kernel⟩, List.mem_of_getElem? (i := 18) (by decide +kernel), List.mem_of_getElem? (i := 589) (by decide +kernel), List.mem_of_getElem? (i := 590) (by decide +kernel)⟩
theorem lw_p18 : lw_okq (⟨"BandEngraver$Nest", "findHoles", "(LBandEngraver$Islands;I)V"⟩, 5) := ⟨⟨by decide +kernel, by decide +kernel⟩, List.mem_of_getElem? (i := 161) (by decide +kernel), List.mem_of_getElem? (i := 602) (by decide +kernel), List.mem_of_getElem? (i := 603) (by decide +kernel)⟩
theorem lw_p19 : lw_okq (⟨"BandEngraver$Nest", "gatherAround", "(LBandEngraver$Islands;II)I"⟩, 5) := ⟨⟨by decide +kernel, by decide +kernel⟩, List.mem_of_getElem? (i := 161) (by decide +kernel), List.mem_of_getElem? (i := 610) (by decide +kernel), List.mem_of_getElem? (i := 611) (by decide +kernel)⟩
theorem lw_p20 : lw_okq (⟨"BandEngraver$Nest", "reachesEdge", "(LBandEngraver$Islands;I)Z"⟩, 5) := ⟨⟨by decide +kernel, by decide +kernel⟩, List.mem_of_getElem? (i := 161) (by decide +kernel), List.mem_of_getElem? (i := 618) (by decide +kernel), List.mem_of_getElem? (i := 619) (by decide +kernel)⟩
theorem lw_p21 : lw_okq (⟨"BandEngraver$Nest", "takeHole", "(LBandEngraver$Islands;II)V"⟩, 5) := ⟨⟨by decide +kernel, by decide +kernel⟩, List.mem_of_getElem? (i := 161) (by decide +kernel), List.mem_of_getElem? (i := 626) (by decide +kernel), List.mem_of_getElem? (i := 627) (by decide +kernel)⟩
theorem lw_p22 : lw_okq (⟨"BandEngraver$Outline", "turned", "(LBandEngraver$Islands;IIII)I"⟩, 4) := ⟨⟨by decide +kernel, by decide +kernel⟩, List.mem_of_getElem? (i := 186) (by decide +kernel), List.mem_of_getElem? (i := 759) (by decide +kernel), List.mem_of_getElem? (i := 760) (by decide +kernel)⟩
theorem lw_p23 : lw_okq (⟨"BandEngraver", "beginAction", "()V"⟩, 13) := ⟨⟨by decide +kernel, by decide +kernel⟩, List.mem_of_getElem? (i := 18) (by decide +kernel), List.mem_of_getElem? (i := 798) (by decide +kernel), List.mem_of_getElem? (i := 799) (by decide +kernel)⟩
theorem lw_p24 : lw_okq (⟨"BandEngraver$State", "leastAbove", "(I)I"⟩, 8) := ⟨⟨by decide +kernel, by decide +kernel⟩, List.mem_of_getElem? (i := 41) (by decide +kernel), List.mem_of_getElem? (i := 832) (by decide +kernel), List.mem_of_getElem? (i := 833) (by decide +kernel)⟩
theorem lw_p25 : lw_okq (⟨"BandEngraver$State", "cellsBelow", "(I)I"⟩, 8) := ⟨⟨by decide +kernel, by decide +kernel⟩, List.mem_of_getElem? (i := 41) (by decide +kernel), List.mem_of_getElem? (i := 836) (by decide +kernel), List.mem_of_getElem? (i := 837) (by decide +kernel)⟩
theorem lw_p26 : lw_okq (⟨"BandEngraver", "obeysGroup", "(I)Z"⟩, 13) := ⟨⟨by decide +kernel, by decide +kernel⟩, List.mem_of_getElem? (i := 18) (by decide +kernel), List.mem_of_getElem? (i := 985) (by decide +kernel), List.mem_of_getElem? (i := 986) (by decide +kernel)⟩
theorem lw_p27 : lw_okq (⟨"BandEngraver", "holdsGroup", "(I)Z"⟩, 13) := ⟨⟨by decide +kernel, by decide +kernel⟩, List.mem_of_getElem? (i := 18) (by decide +kernel), List.mem_of_getElem? (i := 991) (by decide +kernel), List.mem_of_getElem? (i := 992) (by decide +kernel)⟩
theorem lw_p28 : lw_okq (⟨"BandEngraver", "takeTurn", "(I)V"⟩, 13) := ⟨⟨by decide +kernel, by decide +kernel⟩, List.mem_of_getElem? (i := 18) (by decide +kernel), List.mem_of_getElem? (i := 1005) (by decide +kernel), List.mem_of_getElem? (i := 1006) (by decide +kernel)⟩
def lw_privs_2 : List (MethodName × Nat) := [(⟨"BandEngraver$Islands", "giveNumbers", "()V"⟩, 11), (⟨"BandEngraver", "presentNest", "()LBandEngraver$Nest;"⟩, 13), (⟨"BandEngraver$Nest", "findHoles", "(LBandEngraver$Islands;I)V"⟩, 5), (⟨"BandEngraver$Nest", "gatherAround", "(LBandEngraver$Islands;II)I"⟩, 5), (⟨"BandEngraver$Nest", "reachesEdge", "(LBandEngraver$Islands;I)Z"⟩, 5), (⟨"BandEngraver$Nest", "takeHole", "(LBandEngraver$Islands;II)V"⟩, 5), (⟨"BandEngraver$Outline", "turned", "(LBandEngraver$Islands;IIII)I"⟩, 4), (⟨"BandEngraver", "beginAction", "()V"⟩, 13), (⟨"BandEngraver$State", "leastAbove", "(I)I"⟩, 8), (⟨"BandEngraver$State", "cellsBelow", "(I)I"⟩, 8), (⟨"BandEngraver", "obeysGroup", "(I)Z"⟩, 13), (⟨"BandEngraver", "holdsGroup", "(I)Z"⟩, 13), (⟨"BandEngraver", "takeTurn", "(I)V"⟩, 13)]
theorem lw_r2 : ∀ q ∈ lw_privs_2, lw_okq q := List.forall_mem_cons.mpr ⟨lw_p16, List.forall_mem_cons.mpr ⟨lw_p17, List.forall_mem_cons.mpr ⟨lw_p18, List.forall_mem_cons.mpr ⟨lw_p19, List.forall_mem_cons.mpr ⟨lw_p20, List.forall_mem_cons.mpr ⟨lw_p21, List.forall_mem_cons.mpr ⟨lw_p22, List.forall_mem_cons.mpr ⟨lw_p23, List.forall_mem_cons.mpr ⟨lw_p24, List.forall_mem_cons.mpr ⟨lw_p25, List.forall_mem_cons.mpr ⟨lw_p26, List.forall_mem_cons.mpr ⟨lw_p27, List.forall_mem_cons.mpr ⟨lw_p28, fun _ h => absurd h List.not_mem_nil⟩⟩⟩⟩⟩⟩⟩⟩⟩⟩⟩⟩⟩
def lw_privs : List (MethodName × Nat) := lw_privs_1 ++ (lw_privs_2)
def lw_tbl : List Cond := k2_sels lw_privs ++ tables_1
theorem lw_privs_ok : ∀ q ∈ lw_privs, lw_okq q := by
  show ∀ q ∈ lw_privs_1 ++ (lw_privs_2), lw_okq q
  exact List.forall_mem_append.mpr ⟨lw_r1, lw_r2⟩
def RX0 : String := "BandEngraver$Islands"
def TX0 : u_T := fun k => match k with
  | 0 => ("BandEngraver$Islands", "columns", "I", false)
  | 1 => ("BandEngraver$Islands", "rows", "I", false)
  | 2 => ("BandEngraver$Islands", "cells", "I", false)
  | 3 => ("BandEngraver$Islands", "count", "I", false)
  | 4 => ("BandEngraver$Islands", "bands", "[I", true)
  | 5 => ("BandEngraver$Islands", "firsts", "[I", true)
  | 6 => ("BandEngraver$Islands", "sizes", "[I", true)
  | 7 => ("BandEngraver$Islands", "borders", "[I", true)
  | 8 => ("BandEngraver$Islands", "queue", "[I", true)
  | 9 => ("BandEngraver$Islands", "firstOf", "[I", true)
  | _ => ("BandEngraver$Islands", "numberOf", "[I", true)
def tyX0 : Nat → FieldType := fun k => match k with
  | 0 => .int
  | 1 => .int
  | 2 => .int
  | 3 => .int
  | 4 => .array .int
  | 5 => .array .int
  | 6 => .array .int
  | 7 => .array .int
  | 8 => .array .int
  | 9 => .array .int
  | _ => .array .int
theorem nmX0 : ∀ a, a < 11 → ∀ b, b < 11 → a ≠ b → (TX0 a).2.1 ≠ (TX0 b).2.1 := by decide +kernel
theorem tyX0_ok : ∀ k, k < 11 → parseFieldDescriptor (TX0 k).2.2.1 = some (tyX0 k) := by decide +kernel
abbrev cX0_init : ByteArray := prog_2_method_1_code
def yX0_init : MethodName := ⟨RX0, "<init>", "()V"⟩
abbrev cX0_survey : ByteArray := prog_2_method_2_code
def yX0_survey : MethodName := ⟨RX0, "survey", "(LBandEngraver$State;I)V"⟩
abbrev cX0_mergeBelow : ByteArray := prog_2_method_3_code
def yX0_mergeBelow : MethodName := ⟨RX0, "mergeBelow", "(I)V"⟩
abbrev cX0_smallestBelow : ByteArray := prog_2_method_4_code
def yX0_smallestBelow : MethodName := ⟨RX0, "smallestBelow", "(I)I"⟩
abbrev cX0_takerOf : ByteArray := prog_2_method_5_code
def yX0_takerOf : MethodName := ⟨RX0, "takerOf", "(I)I"⟩
abbrev cX0_isBetterTaker : ByteArray := prog_2_method_6_code
def yX0_isBetterTaker : MethodName := ⟨RX0, "isBetterTaker", "(III)Z"⟩
abbrev cX0_measureBorders : ByteArray := prog_2_method_7_code
def yX0_measureBorders : MethodName := ⟨RX0, "measureBorders", "(I)V"⟩
abbrev cX0_gather : ByteArray := prog_2_method_8_code
def yX0_gather : MethodName := ⟨RX0, "gather", "(I)V"⟩
abbrev cX0_enqueue : ByteArray := prog_2_method_9_code
def yX0_enqueue : MethodName := ⟨RX0, "enqueue", "(II)I"⟩
abbrev cX0_giveNumbers : ByteArray := prog_2_method_10_code
def yX0_giveNumbers : MethodName := ⟨RX0, "giveNumbers", "()V"⟩
abbrev cX0_neighbour : ByteArray := prog_2_method_11_code
def yX0_neighbour : MethodName := ⟨RX0, "neighbour", "(II)I"⟩
abbrev cX0_isOnPlate : ByteArray := prog_2_method_12_code
def yX0_isOnPlate : MethodName := ⟨RX0, "isOnPlate", "(II)Z"⟩
abbrev cX0_isAtEdge : ByteArray := prog_2_method_13_code
def yX0_isAtEdge : MethodName := ⟨RX0, "isAtEdge", "(I)Z"⟩
abbrev cX0_has : ByteArray := prog_2_method_14_code
def yX0_has : MethodName := ⟨RX0, "has", "(I)Z"⟩
abbrev cX0_islandAt : ByteArray := prog_2_method_15_code
def yX0_islandAt : MethodName := ⟨RX0, "islandAt", "(I)I"⟩
abbrev cX0_isFirstCell : ByteArray := prog_2_method_16_code
def yX0_isFirstCell : MethodName := ⟨RX0, "isFirstCell", "(I)Z"⟩
abbrev cX0_bandAt : ByteArray := prog_2_method_17_code
def yX0_bandAt : MethodName := ⟨RX0, "bandAt", "(I)I"⟩
abbrev cX0_firstCell : ByteArray := prog_2_method_18_code
def yX0_firstCell : MethodName := ⟨RX0, "firstCell", "(I)I"⟩
abbrev cX0_size : ByteArray := prog_2_method_19_code
def yX0_size : MethodName := ⟨RX0, "size", "(I)I"⟩
abbrev cX0_bandOf : ByteArray := prog_2_method_20_code
def yX0_bandOf : MethodName := ⟨RX0, "bandOf", "(I)I"⟩
abbrev cX0_otherSidesAt : ByteArray := prog_2_method_21_code
def yX0_otherSidesAt : MethodName := ⟨RX0, "otherSidesAt", "(I)I"⟩
abbrev cX0_sidesToOthers : ByteArray := prog_2_method_22_code
def yX0_sidesToOthers : MethodName := ⟨RX0, "sidesToOthers", "(I)I"⟩
abbrev cX0_neighbourCount : ByteArray := prog_2_method_23_code
def yX0_neighbourCount : MethodName := ⟨RX0, "neighbourCount", "(I)I"⟩
abbrev cX0_commonSides : ByteArray := prog_2_method_24_code
def yX0_commonSides : MethodName := ⟨RX0, "commonSides", "(II)I"⟩
abbrev cX0_sidesAtEdge : ByteArray := prog_2_method_25_code
def yX0_sidesAtEdge : MethodName := ⟨RX0, "sidesAtEdge", "(I)I"⟩
abbrev cX0_allSides : ByteArray := prog_2_method_26_code
def yX0_allSides : MethodName := ⟨RX0, "allSides", "()I"⟩
abbrev cX0_cellsOffTheirGrey : ByteArray := prog_2_method_27_code
def yX0_cellsOffTheirGrey : MethodName := ⟨RX0, "cellsOffTheirGrey", "(LBandEngraver$State;)I"⟩
abbrev cX0_cellsOtherThan : ByteArray := prog_2_method_28_code
def yX0_cellsOtherThan : MethodName := ⟨RX0, "cellsOtherThan", "(LBandEngraver$Islands;)I"⟩
abbrev cX0_cellsOfBand : ByteArray := prog_2_method_29_code
def yX0_cellsOfBand : MethodName := ⟨RX0, "cellsOfBand", "(I)I"⟩
abbrev cX0_islandsOfBand : ByteArray := prog_2_method_30_code
def yX0_islandsOfBand : MethodName := ⟨RX0, "islandsOfBand", "(I)I"⟩
abbrev cX0_inkNeeded : ByteArray := prog_2_method_31_code
def yX0_inkNeeded : MethodName := ⟨RX0, "inkNeeded", "(LBandEngraver$State;)I"⟩
def RX1 : String := "BandEngraver$Memory"
def TX1 : u_T := fun k => match k with
  | 0 => ("BandEngraver$Memory", "states", "[LBandEngraver$State;", true)
  | 1 => ("BandEngraver$Memory", "count", "I", false)
  | _ => ("BandEngraver$Memory", "next", "I", false)
def tyX1 : Nat → FieldType := fun k => match k with
  | 0 => .array (.object "BandEngraver$State")
  | 1 => .int
  | _ => .int
theorem nmX1 : ∀ a, a < 3 → ∀ b, b < 3 → a ≠ b → (TX1 a).2.1 ≠ (TX1 b).2.1 := by decide +kernel
theorem tyX1_ok : ∀ k, k < 3 → parseFieldDescriptor (TX1 k).2.2.1 = some (tyX1 k) := by decide +kernel
abbrev cX1_init : ByteArray := prog_3_method_1_code
def yX1_init : MethodName := ⟨RX1, "<init>", "()V"⟩
abbrev cX1_remember : ByteArray := prog_3_method_2_code
def yX1_remember : MethodName := ⟨RX1, "remember", "(LBandEngraver$State;)V"⟩
abbrev cX1_takeBack : ByteArray := prog_3_method_3_code
def yX1_takeBack : MethodName := ⟨RX1, "takeBack", "(LBandEngraver$State;)V"⟩
abbrev cX1_forgetAll : ByteArray := prog_3_method_4_code
def yX1_forgetAll : MethodName := ⟨RX1, "forgetAll", "()V"⟩
def RX2 : String := "BandEngraver$Nest"
def TX2 : u_T := fun k => match k with
  | 0 => ("BandEngraver$Nest", "holes", "[I", true)
  | 1 => ("BandEngraver$Nest", "mothers", "[I", true)
  | 2 => ("BandEngraver$Nest", "inside", "[I", true)
  | 3 => ("BandEngraver$Nest", "seen", "[I", true)
  | _ => ("BandEngraver$Nest", "queue", "[I", true)
def tyX2 : Nat → FieldType := fun k => match k with
  | 0 => .array .int
  | 1 => .array .int
  | 2 => .array .int
  | 3 => .array .int
  | _ => .array .int
theorem nmX2 : ∀ a, a < 5 → ∀ b, b < 5 → a ≠ b → (TX2 a).2.1 ≠ (TX2 b).2.1 := by decide +kernel
theorem tyX2_ok : ∀ k, k < 5 → parseFieldDescriptor (TX2 k).2.2.1 = some (tyX2 k) := by decide +kernel
abbrev cX2_init : ByteArray := prog_4_method_1_code
def yX2_init : MethodName := ⟨RX2, "<init>", "()V"⟩
abbrev cX2_explore : ByteArray := prog_4_method_2_code
def yX2_explore : MethodName := ⟨RX2, "explore", "(LBandEngraver$Islands;)V"⟩
abbrev cX2_allHoles : ByteArray := prog_4_method_3_code
def yX2_allHoles : MethodName := ⟨RX2, "allHoles", "()I"⟩
abbrev cX2_findHoles : ByteArray := prog_4_method_4_code
def yX2_findHoles : MethodName := ⟨RX2, "findHoles", "(LBandEngraver$Islands;I)V"⟩
abbrev cX2_gatherAround : ByteArray := prog_4_method_5_code
def yX2_gatherAround : MethodName := ⟨RX2, "gatherAround", "(LBandEngraver$Islands;II)I"⟩
abbrev cX2_reachesEdge : ByteArray := prog_4_method_6_code
def yX2_reachesEdge : MethodName := ⟨RX2, "reachesEdge", "(LBandEngraver$Islands;I)Z"⟩
abbrev cX2_takeHole : ByteArray := prog_4_method_7_code
def yX2_takeHole : MethodName := ⟨RX2, "takeHole", "(LBandEngraver$Islands;II)V"⟩
def RX3 : String := "BandEngraver$Outline"
def TX3 : u_T := fun k => match k with
  | 0 => ("BandEngraver$Outline", "sides", "I", false)
  | 1 => ("BandEngraver$Outline", "rightTurns", "I", false)
  | 2 => ("BandEngraver$Outline", "leftTurns", "I", false)
  | _ => ("BandEngraver$Outline", "wayAsked", "I", false)
def tyX3 : Nat → FieldType := fun k => match k with
  | 0 => .int
  | 1 => .int
  | 2 => .int
  | _ => .int
theorem nmX3 : ∀ a, a < 4 → ∀ b, b < 4 → a ≠ b → (TX3 a).2.1 ≠ (TX3 b).2.1 := by decide +kernel
theorem tyX3_ok : ∀ k, k < 4 → parseFieldDescriptor (TX3 k).2.2.1 = some (tyX3 k) := by decide +kernel
abbrev cX3_init : ByteArray := prog_5_method_1_code
def yX3_init : MethodName := ⟨RX3, "<init>", "()V"⟩
abbrev cX3_follow : ByteArray := prog_5_method_2_code
def yX3_follow : MethodName := ⟨RX3, "follow", "(LBandEngraver$Islands;II)V"⟩
abbrev cX3_turned : ByteArray := prog_5_method_3_code
def yX3_turned : MethodName := ⟨RX3, "turned", "(LBandEngraver$Islands;IIII)I"⟩
abbrev cX3_isOfIsland : ByteArray := prog_5_method_4_code
def yX3_isOfIsland : MethodName := ⟨RX3, "isOfIsland", "(LBandEngraver$Islands;IIII)Z"⟩
abbrev cX3_eastOf : ByteArray := prog_5_method_5_code
def yX3_eastOf : MethodName := ⟨RX3, "eastOf", "(I)I"⟩
abbrev cX3_southOf : ByteArray := prog_5_method_6_code
def yX3_southOf : MethodName := ⟨RX3, "southOf", "(I)I"⟩
def RX4 : String := "BandEngraver$State"
def TX4 : u_T := fun k => match k with
  | 0 => ("BandEngraver$State", "columns", "I", false)
  | 1 => ("BandEngraver$State", "rows", "I", false)
  | 2 => ("BandEngraver$State", "greys", "[I", true)
  | 3 => ("BandEngraver$State", "thresholds", "[I", true)
  | 4 => ("BandEngraver$State", "thresholdCount", "I", false)
  | 5 => ("BandEngraver$State", "leastSize", "I", false)
  | 6 => ("BandEngraver$State", "hatchings", "[I", true)
  | _ => ("BandEngraver$State", "lineInk", "I", false)
def tyX4 : Nat → FieldType := fun k => match k with
  | 0 => .int
  | 1 => .int
  | 2 => .array .int
  | 3 => .array .int
  | 4 => .int
  | 5 => .int
  | 6 => .array .int
  | _ => .int
theorem nmX4 : ∀ a, a < 8 → ∀ b, b < 8 → a ≠ b → (TX4 a).2.1 ≠ (TX4 b).2.1 := by decide +kernel
theorem tyX4_ok : ∀ k, k < 8 → parseFieldDescriptor (TX4 k).2.2.1 = some (tyX4 k) := by decide +kernel
abbrev cX4_init : ByteArray := prog_6_method_1_code
def yX4_init : MethodName := ⟨RX4, "<init>", "()V"⟩
abbrev cX4_reset : ByteArray := prog_6_method_2_code
def yX4_reset : MethodName := ⟨RX4, "reset", "(II)V"⟩
abbrev cX4_takePlate : ByteArray := prog_6_method_3_code
def yX4_takePlate : MethodName := ⟨RX4, "takePlate", "(II)V"⟩
abbrev cX4_copyFrom : ByteArray := prog_6_method_4_code
def yX4_copyFrom : MethodName := ⟨RX4, "copyFrom", "(LBandEngraver$State;)V"⟩
abbrev cX4_cellCount : ByteArray := prog_6_method_5_code
def yX4_cellCount : MethodName := ⟨RX4, "cellCount", "()I"⟩
abbrev cX4_hasCell : ByteArray := prog_6_method_6_code
def yX4_hasCell : MethodName := ⟨RX4, "hasCell", "(II)Z"⟩
abbrev cX4_cellNumber : ByteArray := prog_6_method_7_code
def yX4_cellNumber : MethodName := ⟨RX4, "cellNumber", "(II)I"⟩
abbrev cX4_greyAt : ByteArray := prog_6_method_8_code
def yX4_greyAt : MethodName := ⟨RX4, "greyAt", "(II)I"⟩
abbrev cX4_hasGrey : ByteArray := prog_6_method_9_code
def yX4_hasGrey : MethodName := ⟨RX4, "hasGrey", "(I)Z"⟩
abbrev cX4_sumOfGreys : ByteArray := prog_6_method_10_code
def yX4_sumOfGreys : MethodName := ⟨RX4, "sumOfGreys", "()I"⟩
abbrev cX4_setGrey : ByteArray := prog_6_method_11_code
def yX4_setGrey : MethodName := ⟨RX4, "setGrey", "(III)I"⟩
abbrev cX4_trySetGrey : ByteArray := prog_6_method_12_code
def yX4_trySetGrey : MethodName := ⟨RX4, "trySetGrey", "(III)Z"⟩
abbrev cX4_fillBox : ByteArray := prog_6_method_13_code
def yX4_fillBox : MethodName := ⟨RX4, "fillBox", "(IIIII)I"⟩
abbrev cX4_tryFillBox : ByteArray := prog_6_method_14_code
def yX4_tryFillBox : MethodName := ⟨RX4, "tryFillBox", "(IIIII)Z"⟩
abbrev cX4_hasThreshold : ByteArray := prog_6_method_15_code
def yX4_hasThreshold : MethodName := ⟨RX4, "hasThreshold", "(I)Z"⟩
abbrev cX4_indexOfThreshold : ByteArray := prog_6_method_16_code
def yX4_indexOfThreshold : MethodName := ⟨RX4, "indexOfThreshold", "(I)I"⟩
abbrev cX4_canChangeThreshold : ByteArray := prog_6_method_17_code
def yX4_canChangeThreshold : MethodName := ⟨RX4, "canChangeThreshold", "(IZ)Z"⟩
abbrev cX4_changeThreshold : ByteArray := prog_6_method_18_code
def yX4_changeThreshold : MethodName := ⟨RX4, "changeThreshold", "(IZ)I"⟩
abbrev cX4_tryChangeThreshold : ByteArray := prog_6_method_19_code
def yX4_tryChangeThreshold : MethodName := ⟨RX4, "tryChangeThreshold", "(IZ)Z"⟩
abbrev cX4_putThreshold : ByteArray := prog_6_method_20_code
def yX4_putThreshold : MethodName := ⟨RX4, "putThreshold", "(I)V"⟩
abbrev cX4_takeThreshold : ByteArray := prog_6_method_21_code
def yX4_takeThreshold : MethodName := ⟨RX4, "takeThreshold", "(I)V"⟩
abbrev cX4_shareThresholds : ByteArray := prog_6_method_22_code
def yX4_shareThresholds : MethodName := ⟨RX4, "shareThresholds", "(I)I"⟩
abbrev cX4_leastAbove : ByteArray := prog_6_method_23_code
def yX4_leastAbove : MethodName := ⟨RX4, "leastAbove", "(I)I"⟩
abbrev cX4_cellsBelow : ByteArray := prog_6_method_24_code
def yX4_cellsBelow : MethodName := ⟨RX4, "cellsBelow", "(I)I"⟩
abbrev cX4_bandOfGrey : ByteArray := prog_6_method_25_code
def yX4_bandOfGrey : MethodName := ⟨RX4, "bandOfGrey", "(I)I"⟩
abbrev cX4_distanceToOtherBand : ByteArray := prog_6_method_26_code
def yX4_distanceToOtherBand : MethodName := ⟨RX4, "distanceToOtherBand", "(I)I"⟩
abbrev cX4_trySetLeast : ByteArray := prog_6_method_27_code
def yX4_trySetLeast : MethodName := ⟨RX4, "trySetLeast", "(I)Z"⟩
abbrev cX4_blurGreys : ByteArray := prog_6_method_28_code
def yX4_blurGreys : MethodName := ⟨RX4, "blurGreys", "([I)I"⟩
abbrev cX4_blurredGrey : ByteArray := prog_6_method_29_code
def yX4_blurredGrey : MethodName := ⟨RX4, "blurredGrey", "([III)I"⟩
abbrev cX4_invertGreys : ByteArray := prog_6_method_30_code
def yX4_invertGreys : MethodName := ⟨RX4, "invertGreys", "()Z"⟩
abbrev cX4_spreadGreys : ByteArray := prog_6_method_31_code
def yX4_spreadGreys : MethodName := ⟨RX4, "spreadGreys", "(I)I"⟩
abbrev cX4_spreadOut : ByteArray := prog_6_method_32_code
def yX4_spreadOut : MethodName := ⟨RX4, "spreadOut", "(II)I"⟩
abbrev cX4_trySpread : ByteArray := prog_6_method_33_code
def yX4_trySpread : MethodName := ⟨RX4, "trySpread", "(I)Z"⟩
abbrev cX4_addNoise : ByteArray := prog_6_method_34_code
def yX4_addNoise : MethodName := ⟨RX4, "addNoise", "(JI)I"⟩
def RX5 : String := "BandEngraver$Text"
def TX5 : u_T := fun k => match k with
  | 0 => ("BandEngraver$Text", "signs", "[I", true)
  | _ => ("BandEngraver$Text", "length", "I", false)
def tyX5 : Nat → FieldType := fun k => match k with
  | 0 => .array .int
  | _ => .int
theorem nmX5 : ∀ a, a < 2 → ∀ b, b < 2 → a ≠ b → (TX5 a).2.1 ≠ (TX5 b).2.1 := by decide +kernel
theorem tyX5_ok : ∀ k, k < 2 → parseFieldDescriptor (TX5 k).2.2.1 = some (tyX5 k) := by decide +kernel
abbrev cX5_init : ByteArray := prog_7_method_1_code
def yX5_init : MethodName := ⟨RX5, "<init>", "()V"⟩
abbrev cX5_isFull : ByteArray := prog_7_method_2_code
def yX5_isFull : MethodName := ⟨RX5, "isFull", "()Z"⟩
abbrev cX5_add : ByteArray := prog_7_method_3_code
def yX5_add : MethodName := ⟨RX5, "add", "(I)I"⟩
abbrev cX5_signAt : ByteArray := prog_7_method_5_code
def yX5_signAt : MethodName := ⟨RX5, "signAt", "(I)I"⟩
abbrev cX5_numberAt : ByteArray := prog_7_method_6_code
def yX5_numberAt : MethodName := ⟨RX5, "numberAt", "(I)I"⟩
abbrev cX5_wordEnd : ByteArray := prog_7_method_7_code
def yX5_wordEnd : MethodName := ⟨RX5, "wordEnd", "(I)I"⟩
abbrev cX5_firstError : ByteArray := prog_7_method_8_code
def yX5_firstError : MethodName := ⟨RX5, "firstError", "()I"⟩
abbrev cX5_errorInWord : ByteArray := prog_7_method_9_code
def yX5_errorInWord : MethodName := ⟨RX5, "errorInWord", "(IZ)I"⟩
abbrev cX5_isDigitAllowed : ByteArray := prog_7_method_10_code
def yX5_isDigitAllowed : MethodName := ⟨RX5, "isDigitAllowed", "(III)Z"⟩
abbrev cX5_numbersOf : ByteArray := prog_7_method_11_code
def yX5_numbersOf : MethodName := ⟨RX5, "numbersOf", "(I)I"⟩
abbrev cX5_lowestNumber : ByteArray := prog_7_method_12_code
def yX5_lowestNumber : MethodName := ⟨RX5, "lowestNumber", "(I)I"⟩
abbrev cX5_highestNumber : ByteArray := prog_7_method_13_code
def yX5_highestNumber : MethodName := ⟨RX5, "highestNumber", "(II)I"⟩
def RX6 : String := "BandEngraver"
def TX6 : u_T := fun k => match k with
  | 0 => ("BandEngraver", "text", "LBandEngraver$Text;", true)
  | 1 => ("BandEngraver", "state", "LBandEngraver$State;", true)
  | 2 => ("BandEngraver", "memory", "LBandEngraver$Memory;", true)
  | 3 => ("BandEngraver", "slots", "[LBandEngraver$State;", true)
  | 4 => ("BandEngraver", "saved", "[Z", true)
  | 5 => ("BandEngraver", "islands", "LBandEngraver$Islands;", true)
  | 6 => ("BandEngraver", "nest", "LBandEngraver$Nest;", true)
  | 7 => ("BandEngraver", "islandsKnown", "Z", false)
  | 8 => ("BandEngraver", "nestKnown", "Z", false)
  | 9 => ("BandEngraver", "trial", "LBandEngraver$State;", true)
  | 10 => ("BandEngraver", "trialIslands", "LBandEngraver$Islands;", true)
  | 11 => ("BandEngraver", "contour", "LBandEngraver$Outline;", true)
  | _ => ("BandEngraver", "greysBefore", "[I", true)
def tyX6 : Nat → FieldType := fun k => match k with
  | 0 => .object "BandEngraver$Text"
  | 1 => .object "BandEngraver$State"
  | 2 => .object "BandEngraver$Memory"
  | 3 => .array (.object "BandEngraver$State")
  | 4 => .array .boolean
  | 5 => .object "BandEngraver$Islands"
  | 6 => .object "BandEngraver$Nest"
  | 7 => .boolean
  | 8 => .boolean
  | 9 => .object "BandEngraver$State"
  | 10 => .object "BandEngraver$Islands"
  | 11 => .object "BandEngraver$Outline"
  | _ => .array .int
theorem nmX6 : ∀ a, a < 13 → ∀ b, b < 13 → a ≠ b → (TX6 a).2.1 ≠ (TX6 b).2.1 := by decide +kernel
theorem tyX6_ok : ∀ k, k < 13 → parseFieldDescriptor (TX6 k).2.2.1 = some (tyX6 k) := by decide +kernel
abbrev cX6_init : ByteArray := prog_1_method_1_code
def yX6_init : MethodName := ⟨RX6, "<init>", "()V"⟩
abbrev cX6_append : ByteArray := prog_1_method_2_code
def yX6_append : MethodName := ⟨RX6, "append", "(I)I"⟩
abbrev cX6_load : ByteArray := prog_1_method_5_code
def yX6_load : MethodName := ⟨RX6, "load", "()I"⟩
abbrev cX6_obeysWord : ByteArray := prog_1_method_6_code
def yX6_obeysWord : MethodName := ⟨RX6, "obeysWord", "(I)Z"⟩
abbrev cX6_about : ByteArray := prog_1_method_7_code
def yX6_about : MethodName := ⟨RX6, "about", "(I)I"⟩
abbrev cX6_cellOf : ByteArray := prog_1_method_8_code
def yX6_cellOf : MethodName := ⟨RX6, "cellOf", "(III)I"⟩
abbrev cX6_thresholdAt : ByteArray := prog_1_method_9_code
def yX6_thresholdAt : MethodName := ⟨RX6, "thresholdAt", "(I)I"⟩
abbrev cX6_island : ByteArray := prog_1_method_10_code
def yX6_island : MethodName := ⟨RX6, "island", "(II)I"⟩
abbrev cX6_border : ByteArray := prog_1_method_11_code
def yX6_border : MethodName := ⟨RX6, "border", "(II)I"⟩
abbrev cX6_outline : ByteArray := prog_1_method_12_code
def yX6_outline : MethodName := ⟨RX6, "outline", "(II)I"⟩
abbrev cX6_outlineWay : ByteArray := prog_1_method_13_code
def yX6_outlineWay : MethodName := ⟨RX6, "outlineWay", "(II)I"⟩
abbrev cX6_band : ByteArray := prog_1_method_14_code
def yX6_band : MethodName := ⟨RX6, "band", "(II)I"⟩
abbrev cX6_ink : ByteArray := prog_1_method_15_code
def yX6_ink : MethodName := ⟨RX6, "ink", "()I"⟩
abbrev cX6_plate : ByteArray := prog_1_method_16_code
def yX6_plate : MethodName := ⟨RX6, "plate", "(II)I"⟩
abbrev cX6_cell : ByteArray := prog_1_method_17_code
def yX6_cell : MethodName := ⟨RX6, "cell", "(III)I"⟩
abbrev cX6_box : ByteArray := prog_1_method_18_code
def yX6_box : MethodName := ⟨RX6, "box", "(IIIII)I"⟩
abbrev cX6_threshold : ByteArray := prog_1_method_19_code
def yX6_threshold : MethodName := ⟨RX6, "threshold", "(IZ)I"⟩
abbrev cX6_share : ByteArray := prog_1_method_20_code
def yX6_share : MethodName := ⟨RX6, "share", "(I)I"⟩
abbrev cX6_least : ByteArray := prog_1_method_21_code
def yX6_least : MethodName := ⟨RX6, "least", "(I)I"⟩
abbrev cX6_hatch : ByteArray := prog_1_method_22_code
def yX6_hatch : MethodName := ⟨RX6, "hatch", "(II)I"⟩
abbrev cX6_line : ByteArray := prog_1_method_23_code
def yX6_line : MethodName := ⟨RX6, "line", "(I)I"⟩
abbrev cX6_blur : ByteArray := prog_1_method_24_code
def yX6_blur : MethodName := ⟨RX6, "blur", "()I"⟩
abbrev cX6_invert : ByteArray := prog_1_method_25_code
def yX6_invert : MethodName := ⟨RX6, "invert", "()I"⟩
abbrev cX6_spread : ByteArray := prog_1_method_26_code
def yX6_spread : MethodName := ⟨RX6, "spread", "(I)I"⟩
abbrev cX6_noise : ByteArray := prog_1_method_27_code
def yX6_noise : MethodName := ⟨RX6, "noise", "(JI)I"⟩
abbrev cX6_undo : ByteArray := prog_1_method_28_code
def yX6_undo : MethodName := ⟨RX6, "undo", "()I"⟩
abbrev cX6_beginAction : ByteArray := prog_1_method_29_code
def yX6_beginAction : MethodName := ⟨RX6, "beginAction", "()V"⟩
abbrev cX6_ifLeast : ByteArray := prog_1_method_30_code
def yX6_ifLeast : MethodName := ⟨RX6, "ifLeast", "(II)I"⟩
abbrev cX6_leastFor : ByteArray := prog_1_method_31_code
def yX6_leastFor : MethodName := ⟨RX6, "leastFor", "(I)I"⟩
abbrev cX6_bestMove : ByteArray := prog_1_method_32_code
def yX6_bestMove : MethodName := ⟨RX6, "bestMove", "(I)I"⟩
abbrev cX6_ifCell : ByteArray := prog_1_method_33_code
def yX6_ifCell : MethodName := ⟨RX6, "ifCell", "(IIII)I"⟩
abbrev cX6_runScript : ByteArray := prog_1_method_34_code
def yX6_runScript : MethodName := ⟨RX6, "runScript", "(IJ)I"⟩
abbrev cX6_obeysGroup : ByteArray := prog_1_method_35_code
def yX6_obeysGroup : MethodName := ⟨RX6, "obeysGroup", "(I)Z"⟩
abbrev cX6_holdsGroup : ByteArray := prog_1_method_36_code
def yX6_holdsGroup : MethodName := ⟨RX6, "holdsGroup", "(I)Z"⟩
abbrev cX6_simulate : ByteArray := prog_1_method_37_code
def yX6_simulate : MethodName := ⟨RX6, "simulate", "(JI)I"⟩
abbrev cX6_takeTurn : ByteArray := prog_1_method_38_code
def yX6_takeTurn : MethodName := ⟨RX6, "takeTurn", "(I)V"⟩
abbrev cX6_save : ByteArray := prog_1_method_39_code
def yX6_save : MethodName := ⟨RX6, "save", "(I)I"⟩
abbrev cX6_restore : ByteArray := prog_1_method_40_code
def yX6_restore : MethodName := ⟨RX6, "restore", "(I)I"⟩
abbrev cX6_present : ByteArray := prog_1_method_41_code
def yX6_present : MethodName := ⟨RX6, "present", "()LBandEngraver$Islands;"⟩
abbrev cX6_presentNest : ByteArray := prog_1_method_42_code
def yX6_presentNest : MethodName := ⟨RX6, "presentNest", "()LBandEngraver$Nest;"⟩
abbrev cX6_forgetFindings : ByteArray := prog_1_method_43_code
def yX6_forgetFindings : MethodName := ⟨RX6, "forgetFindings", "()V"⟩
abbrev cX6_isWithin : ByteArray := prog_1_method_44_code
def yX6_isWithin : MethodName := ⟨RX6, "isWithin", "(III)Z"⟩
abbrev cX6_mustBeWithin : ByteArray := prog_1_method_45_code
def yX6_mustBeWithin : MethodName := ⟨RX6, "mustBeWithin", "(III)V"⟩
abbrev cX6_mustExist : ByteArray := prog_1_method_46_code
def yX6_mustExist : MethodName := ⟨RX6, "mustExist", "(Z)V"⟩
def RX7 : String := "BandEngraverModel"
def RL : String := "BandEngraverLaw"
abbrev cL_parts : ByteArray := method_2_code
def yL_parts : MethodName := ⟨RL, "parts", "(LBandEngraver;IZ)I"⟩
abbrev cL_boxes : ByteArray := method_3_code
def yL_boxes : MethodName := ⟨RL, "boxes", "(LBandEngraver;IIIII)I"⟩
abbrev cL_noises : ByteArray := method_4_code
def yL_noises : MethodName := ⟨RL, "noises", "(LBandEngraver;JI)I"⟩
abbrev cL_would : ByteArray := method_5_code
def yL_would : MethodName := ⟨RL, "would", "(LBandEngraver;IIII)I"⟩
abbrev cL_doScript : ByteArray := method_6_code
def yL_doScript : MethodName := ⟨RL, "doScript", "(LBandEngraver;IJ)I"⟩
abbrev cL_doSimulate : ByteArray := method_7_code
def yL_doSimulate : MethodName := ⟨RL, "doSimulate", "(LBandEngraver;JI)I"⟩
abbrev cL_tryAppend : ByteArray := method_8_code
def yL_tryAppend : MethodName := ⟨RL, "tryAppend", "(LBandEngraver;I)I"⟩
abbrev cL_tryLoad : ByteArray := method_9_code
def yL_tryLoad : MethodName := ⟨RL, "tryLoad", "(LBandEngraver;)I"⟩
abbrev cL_tryAbout : ByteArray := method_10_code
def yL_tryAbout : MethodName := ⟨RL, "tryAbout", "(LBandEngraver;I)I"⟩
abbrev cL_tryCell : ByteArray := method_11_code
def yL_tryCell : MethodName := ⟨RL, "tryCell", "(LBandEngraver;III)I"⟩
abbrev cL_tryPart : ByteArray := method_12_code
def yL_tryPart : MethodName := ⟨RL, "tryPart", "(LBandEngraver;I)I"⟩
abbrev cL_tryIsle : ByteArray := method_13_code
def yL_tryIsle : MethodName := ⟨RL, "tryIsle", "(LBandEngraver;II)I"⟩
abbrev cL_tryBorder : ByteArray := method_14_code
def yL_tryBorder : MethodName := ⟨RL, "tryBorder", "(LBandEngraver;II)I"⟩
abbrev cL_tryOutline : ByteArray := method_15_code
def yL_tryOutline : MethodName := ⟨RL, "tryOutline", "(LBandEngraver;II)I"⟩
abbrev cL_tryWay : ByteArray := method_16_code
def yL_tryWay : MethodName := ⟨RL, "tryWay", "(LBandEngraver;II)I"⟩
abbrev cL_tryBand : ByteArray := method_17_code
def yL_tryBand : MethodName := ⟨RL, "tryBand", "(LBandEngraver;II)I"⟩
abbrev cL_tryPlate : ByteArray := method_18_code
def yL_tryPlate : MethodName := ⟨RL, "tryPlate", "(LBandEngraver;II)I"⟩
abbrev cL_tryPaint : ByteArray := method_19_code
def yL_tryPaint : MethodName := ⟨RL, "tryPaint", "(LBandEngraver;III)I"⟩
abbrev cL_tryShare : ByteArray := method_20_code
def yL_tryShare : MethodName := ⟨RL, "tryShare", "(LBandEngraver;I)I"⟩
abbrev cL_tryLeast : ByteArray := method_21_code
def yL_tryLeast : MethodName := ⟨RL, "tryLeast", "(LBandEngraver;I)I"⟩
abbrev cL_tryHatch : ByteArray := method_22_code
def yL_tryHatch : MethodName := ⟨RL, "tryHatch", "(LBandEngraver;II)I"⟩
abbrev cL_tryLine : ByteArray := method_23_code
def yL_tryLine : MethodName := ⟨RL, "tryLine", "(LBandEngraver;I)I"⟩
abbrev cL_trySpread : ByteArray := method_24_code
def yL_trySpread : MethodName := ⟨RL, "trySpread", "(LBandEngraver;I)I"⟩
abbrev cL_tryUndo : ByteArray := method_25_code
def yL_tryUndo : MethodName := ⟨RL, "tryUndo", "(LBandEngraver;)I"⟩
abbrev cL_tryIf : ByteArray := method_26_code
def yL_tryIf : MethodName := ⟨RL, "tryIf", "(LBandEngraver;II)I"⟩
abbrev cL_tryFor : ByteArray := method_27_code
def yL_tryFor : MethodName := ⟨RL, "tryFor", "(LBandEngraver;I)I"⟩
abbrev cL_tryBest : ByteArray := method_28_code
def yL_tryBest : MethodName := ⟨RL, "tryBest", "(LBandEngraver;I)I"⟩
abbrev cL_tryKeep : ByteArray := method_29_code
def yL_tryKeep : MethodName := ⟨RL, "tryKeep", "(LBandEngraver;I)I"⟩
abbrev cL_tryBack : ByteArray := method_30_code
def yL_tryBack : MethodName := ⟨RL, "tryBack", "(LBandEngraver;I)I"⟩
abbrev cL_call : ByteArray := method_31_code
def yL_call : MethodName := ⟨RL, "call", "(LBandEngraver;IIII)I"⟩
abbrev cL_cell : ByteArray := method_32_code
def yL_cell : MethodName := ⟨RL, "cell", "([II)I"⟩
abbrev cL_thrown : ByteArray := method_33_code
def yL_thrown : MethodName := ⟨RL, "thrown", "(I)Z"⟩
abbrev cL_refuses : ByteArray := method_34_code
def yL_refuses : MethodName := ⟨RL, "refuses", "(LBandEngraver;I)Z"⟩
abbrev cL_pair : ByteArray := method_35_code
def yL_pair : MethodName := ⟨RL, "pair", "([I[III)Z"⟩
abbrev cL_holds : ByteArray := method_36_code
def yL_holds : MethodName := ⟨RL, "holds", "(LBandEngraver;)Z"⟩
abbrev cL_act : ByteArray := method_37_code
def yL_act : MethodName := ⟨RL, "act", "(LBandEngraver;I)I"⟩
abbrev cL_alike : ByteArray := method_38_code
def yL_alike : MethodName := ⟨RL, "alike", "(LBandEngraver;LBandEngraver;I)Z"⟩
abbrev cL_law : ByteArray := code
def yL_law : MethodName := ⟨RL, "law", "([I)Z"⟩
abbrev cL_leasts : ByteArray := method_40_code
def yL_leasts : MethodName := ⟨RL, "leasts", "(LBandEngraver;LBandEngraver;I)Z"⟩
abbrev cL_paints : ByteArray := method_41_code
def yL_paints : MethodName := ⟨RL, "paints", "(LBandEngraver;LBandEngraver;I)Z"⟩
abbrev cL_moves : ByteArray := method_42_code
def yL_moves : MethodName := ⟨RL, "moves", "(LBandEngraver;LBandEngraver;I)Z"⟩
abbrev classes : List vw_C := [(RX0, TX0, 11), (RX1, TX1, 3), (RX2, TX2, 5), (RX3, TX3, 4), (RX4, TX4, 8), (RX5, TX5, 2), (RX6, TX6, 13)]
