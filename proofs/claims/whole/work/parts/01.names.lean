-- ===== PART A: goes FIRST, ahead of the names: the tables' words, and 'selects' of the private methods out of them =====
/-- a private method of a class that the tables say can be made, by its rows of tables_1 -/
def lw_okq (q : MethodName × Nat) : Prop := (q.1.cls ≠ "java/lang/invoke/MethodHandle" ∧ q.1.cls ≠ "java/lang/invoke/VarHandle") ∧ Cond.instantiable q.1.cls q.2 ∈ tables_1 ∧ Cond.privateMethod q.1 ∈ tables_1 ∧ Cond.instanceMethod q.1 ∈ tables_1
theorem lw_p0 : lw_okq (⟨"FitBench$Drawing", "uniteGroups", "(II)V"⟩, 3) := ⟨⟨by decide +kernel, by decide +kernel⟩, List.mem_of_getElem? (i := 169) (by decide +kernel), List.mem_of_getElem? (i := 369) (by decide +kernel), List.mem_of_getElem? (i := 370) (by decide +kernel)⟩
theorem lw_p1 : lw_okq (⟨"FitBench", "rightOf", "(LFitBench$Chain;LFitBench$Chain;I)J"⟩, 6) := ⟨⟨by decide +kernel, by decide +kernel⟩, List.mem_of_getElem? (i := 14) (by decide +kernel), List.mem_of_getElem? (i := 419) (by decide +kernel), List.mem_of_getElem? (i := 420) (by decide +kernel)⟩
theorem lw_p2 : lw_okq (⟨"FitBench$Spread", "clear", "(II)Z"⟩, 9) := ⟨⟨by decide +kernel, by decide +kernel⟩, List.mem_of_getElem? (i := 186) (by decide +kernel), List.mem_of_getElem? (i := 435) (by decide +kernel), List.mem_of_getElem? (i := 436) (by decide +kernel)⟩
theorem lw_p3 : lw_okq (⟨"FitBench$Spread", "spreadBy", "(LFitBench$Measure;II)V"⟩, 9) := ⟨⟨by decide +kernel, by decide +kernel⟩, List.mem_of_getElem? (i := 186) (by decide +kernel), List.mem_of_getElem? (i := 448) (by decide +kernel), List.mem_of_getElem? (i := 449) (by decide +kernel)⟩
theorem lw_p4 : lw_okq (⟨"FitBench$Spread", "timesAll", "(I)V"⟩, 9) := ⟨⟨by decide +kernel, by decide +kernel⟩, List.mem_of_getElem? (i := 186) (by decide +kernel), List.mem_of_getElem? (i := 457) (by decide +kernel), List.mem_of_getElem? (i := 458) (by decide +kernel)⟩
theorem lw_p5 : lw_okq (⟨"FitBench$Spread", "noteChanges", "(LFitBench$Measure;Z)V"⟩, 9) := ⟨⟨by decide +kernel, by decide +kernel⟩, List.mem_of_getElem? (i := 186) (by decide +kernel), List.mem_of_getElem? (i := 461) (by decide +kernel), List.mem_of_getElem? (i := 462) (by decide +kernel)⟩
theorem lw_p6 : lw_okq (⟨"FitBench$Spread", "sumBy", "(II)V"⟩, 9) := ⟨⟨by decide +kernel, by decide +kernel⟩, List.mem_of_getElem? (i := 186) (by decide +kernel), List.mem_of_getElem? (i := 465) (by decide +kernel), List.mem_of_getElem? (i := 466) (by decide +kernel)⟩
theorem lw_p7 : lw_okq (⟨"FitBench$Spread", "weighChanges", "(III)V"⟩, 9) := ⟨⟨by decide +kernel, by decide +kernel⟩, List.mem_of_getElem? (i := 186) (by decide +kernel), List.mem_of_getElem? (i := 469) (by decide +kernel), List.mem_of_getElem? (i := 470) (by decide +kernel)⟩
theorem lw_p8 : lw_okq (⟨"FitBench$Care", "gatherGraded", "([LFitBench$Measure;)V"⟩, 8) := ⟨⟨by decide +kernel, by decide +kernel⟩, List.mem_of_getElem? (i := 225) (by decide +kernel), List.mem_of_getElem? (i := 539) (by decide +kernel), List.mem_of_getElem? (i := 540) (by decide +kernel)⟩
theorem lw_p9 : lw_okq (⟨"FitBench$Care", "startRooms", "(LFitBench$State;)Z"⟩, 8) := ⟨⟨by decide +kernel, by decide +kernel⟩, List.mem_of_getElem? (i := 225) (by decide +kernel), List.mem_of_getElem? (i := 552) (by decide +kernel), List.mem_of_getElem? (i := 553) (by decide +kernel)⟩
theorem lw_p10 : lw_okq (⟨"FitBench$Care", "narrow", "(LFitBench$State;II)Z"⟩, 8) := ⟨⟨by decide +kernel, by decide +kernel⟩, List.mem_of_getElem? (i := 225) (by decide +kernel), List.mem_of_getElem? (i := 564) (by decide +kernel), List.mem_of_getElem? (i := 565) (by decide +kernel)⟩
theorem lw_p11 : lw_okq (⟨"FitBench$Care", "tellChoice", "([LFitBench$Measure;)V"⟩, 8) := ⟨⟨by decide +kernel, by decide +kernel⟩, List.mem_of_getElem? (i := 225) (by decide +kernel), List.mem_of_getElem? (i := 568) (by decide +kernel), List.mem_of_getElem? (i := 569) (by decide +kernel)⟩
theorem lw_p12 : lw_okq (⟨"FitBench$Spread", "reachBy", "(II)V"⟩, 9) := ⟨⟨by decide +kernel, by decide +kernel⟩, List.mem_of_getElem? (i := 186) (by decide +kernel), List.mem_of_getElem? (i := 613) (by decide +kernel), List.mem_of_getElem? (i := 614) (by decide +kernel)⟩
theorem lw_p13 : lw_okq (⟨"FitBenchModel", "many", "(II)I"⟩, 14) := ⟨⟨by decide +kernel, by decide +kernel⟩, List.mem_of_getElem? (i := 654) (by decide +kernel), List.mem_of_getElem? (i := 730) (by decide +kernel), List.mem_of_getElem? (i := 731) (by decide +kernel)⟩
theorem lw_p14 : lw_okq (⟨"FitBenchModel", "isAsked", "(I)Z"⟩, 14) := ⟨⟨by decide +kernel, by decide +kernel⟩, List.mem_of_getElem? (i := 654) (by decide +kernel), List.mem_of_getElem? (i := 760) (by decide +kernel), List.mem_of_getElem? (i := 761) (by decide +kernel)⟩
theorem lw_p15 : lw_okq (⟨"FitBenchModel", "otherFace", "(II)I"⟩, 14) := ⟨⟨by decide +kernel, by decide +kernel⟩, List.mem_of_getElem? (i := 654) (by decide +kernel), List.mem_of_getElem? (i := 775) (by decide +kernel), List.mem_of_getElem? (i := 776) (by decide +kernel)⟩
def lw_privs_1 : List (MethodName × Nat) := [(⟨"FitBench$Drawing", "uniteGroups", "(II)V"⟩, 3), (⟨"FitBench", "rightOf", "(LFitBench$Chain;LFitBench$Chain;I)J"⟩, 6), (⟨"FitBench$Spread", "clear", "(II)Z"⟩, 9), (⟨"FitBench$Spread", "spreadBy", "(LFitBench$Measure;II)V"⟩, 9), (⟨"FitBench$Spread", "timesAll", "(I)V"⟩, 9), (⟨"FitBench$Spread", "noteChanges", "(LFitBench$Measure;Z)V"⟩, 9), (⟨"FitBench$Spread", "sumBy", "(II)V"⟩, 9), (⟨"FitBench$Spread", "weighChanges", "(III)V"⟩, 9), (⟨"FitBench$Care", "gatherGraded", "([LFitBench$Measure;)V"⟩, 8), (⟨"FitBench$Care", "startRooms", "(LFitBench$State;)Z"⟩, 8), (⟨"FitBench$Care", "narrow", "(LFitBench$State;II)Z"⟩, 8), (⟨"FitBench$Care", "tellChoice", "([LFitBench$Measure;)V"⟩, 8), (⟨"FitBench$Spread", "reachBy", "(II)V"⟩, 9), (⟨"FitBenchModel", "many", "(II)I"⟩, 14), (⟨"FitBenchModel", "isAsked", "(I)Z"⟩, 14), (⟨"FitBenchModel", "otherFace", "(II)I"⟩, 14)]
theorem lw_r1 : ∀ q ∈ lw_privs_1, lw_okq q := List.forall_mem_cons.mpr ⟨lw_p0, List.forall_mem_cons.mpr ⟨lw_p1, List.forall_mem_cons.mpr ⟨lw_p2, List.forall_mem_cons.mpr ⟨lw_p3, List.forall_mem_cons.mpr ⟨lw_p4, List.forall_mem_cons.mpr ⟨lw_p5, List.forall_mem_cons.mpr ⟨lw_p6, List.forall_mem_cons.mpr ⟨lw_p7, List.forall_mem_cons.mpr ⟨lw_p8, List.forall_mem_cons.mpr ⟨lw_p9, List.forall_mem_cons.mpr ⟨lw_p10, List.forall_mem_cons.mpr ⟨lw_p11, List.forall_mem_cons.mpr ⟨lw_p12, List.forall_mem_cons.mpr ⟨lw_p13, List.forall_mem_cons.mpr ⟨lw_p14, List.forall_mem_cons.mpr ⟨lw_p15, fun _ h => absurd h List.not_mem_nil⟩⟩⟩⟩⟩⟩⟩⟩⟩⟩⟩⟩⟩⟩⟩⟩
theorem lw_p16 : lw_okq (⟨"FitBenchModel", "shareOf", "(II)I"⟩, 14) := ⟨⟨by decide +kernel, by decide +kernel⟩, List.mem_of_getElem? (i := 654) (by decide +kernel), List.mem_of_getElem? (i := 787) (by decide +kernel), List.mem_of_getElem? (i := 788) (by decide +kernel)⟩
theorem lw_p17 : lw_okq (⟨"FitBenchModel", "lowMiss", "(I)I"⟩, 14) := ⟨⟨by decide +kernel, by decide +kernel⟩, List.mem_of_getElem? (i := 654) (by decide +kernel), List.mem_of_getElem? (i := 791) (by decide +kernel), List.mem_of_getElem? (i := 792) (by decide +kernel)⟩
theorem lw_p18 : lw_okq (⟨"FitBenchModel", "highMiss", "(I)I"⟩, 14) := ⟨⟨by decide +kernel, by decide +kernel⟩, List.mem_of_getElem? (i := 654) (by decide +kernel), List.mem_of_getElem? (i := 795) (by decide +kernel), List.mem_of_getElem? (i := 796) (by decide +kernel)⟩
theorem lw_p19 : lw_okq (⟨"FitBenchModel", "parts", "(II)J"⟩, 14) := ⟨⟨by decide +kernel, by decide +kernel⟩, List.mem_of_getElem? (i := 654) (by decide +kernel), List.mem_of_getElem? (i := 815) (by decide +kernel), List.mem_of_getElem? (i := 816) (by decide +kernel)⟩
theorem lw_p20 : lw_okq (⟨"FitBenchModel", "counts", "(IIZ)V"⟩, 14) := ⟨⟨by decide +kernel, by decide +kernel⟩, List.mem_of_getElem? (i := 654) (by decide +kernel), List.mem_of_getElem? (i := 821) (by decide +kernel), List.mem_of_getElem? (i := 822) (by decide +kernel)⟩
theorem lw_p21 : lw_okq (⟨"FitBenchModel", "wide", "(I)I"⟩, 14) := ⟨⟨by decide +kernel, by decide +kernel⟩, List.mem_of_getElem? (i := 654) (by decide +kernel), List.mem_of_getElem? (i := 825) (by decide +kernel), List.mem_of_getElem? (i := 826) (by decide +kernel)⟩
theorem lw_p22 : lw_okq (⟨"FitBenchModel", "isChosen", "(I)Z"⟩, 14) := ⟨⟨by decide +kernel, by decide +kernel⟩, List.mem_of_getElem? (i := 654) (by decide +kernel), List.mem_of_getElem? (i := 865) (by decide +kernel), List.mem_of_getElem? (i := 866) (by decide +kernel)⟩
theorem lw_p23 : lw_okq (⟨"FitBenchModel", "isGood", "()Z"⟩, 14) := ⟨⟨by decide +kernel, by decide +kernel⟩, List.mem_of_getElem? (i := 654) (by decide +kernel), List.mem_of_getElem? (i := 869) (by decide +kernel), List.mem_of_getElem? (i := 870) (by decide +kernel)⟩
theorem lw_p24 : lw_okq (⟨"FitBenchModel", "goesOn", "()Z"⟩, 14) := ⟨⟨by decide +kernel, by decide +kernel⟩, List.mem_of_getElem? (i := 654) (by decide +kernel), List.mem_of_getElem? (i := 873) (by decide +kernel), List.mem_of_getElem? (i := 874) (by decide +kernel)⟩
theorem lw_p25 : lw_okq (⟨"FitBenchModel", "gapsThatCanBe", "(I)V"⟩, 14) := ⟨⟨by decide +kernel, by decide +kernel⟩, List.mem_of_getElem? (i := 654) (by decide +kernel), List.mem_of_getElem? (i := 904) (by decide +kernel), List.mem_of_getElem? (i := 905) (by decide +kernel)⟩
def lw_privs_2 : List (MethodName × Nat) := [(⟨"FitBenchModel", "shareOf", "(II)I"⟩, 14), (⟨"FitBenchModel", "lowMiss", "(I)I"⟩, 14), (⟨"FitBenchModel", "highMiss", "(I)I"⟩, 14), (⟨"FitBenchModel", "parts", "(II)J"⟩, 14), (⟨"FitBenchModel", "counts", "(IIZ)V"⟩, 14), (⟨"FitBenchModel", "wide", "(I)I"⟩, 14), (⟨"FitBenchModel", "isChosen", "(I)Z"⟩, 14), (⟨"FitBenchModel", "isGood", "()Z"⟩, 14), (⟨"FitBenchModel", "goesOn", "()Z"⟩, 14), (⟨"FitBenchModel", "gapsThatCanBe", "(I)V"⟩, 14)]
theorem lw_r2 : ∀ q ∈ lw_privs_2, lw_okq q := List.forall_mem_cons.mpr ⟨lw_p16, List.forall_mem_cons.mpr ⟨lw_p17, List.forall_mem_cons.mpr ⟨lw_p18, List.forall_mem_cons.mpr ⟨lw_p19, List.forall_mem_cons.mpr ⟨lw_p20, List.forall_mem_cons.mpr ⟨lw_p21, List.forall_mem_cons.mpr ⟨lw_p22, List.forall_mem_cons.mpr ⟨lw_p23, List.forall_mem_cons.mpr ⟨lw_p24, List.forall_mem_cons.mpr ⟨lw_p25, fun _ h => absurd h List.not_mem_nil⟩⟩⟩⟩⟩⟩⟩⟩⟩⟩
def lw_privs : List (MethodName × Nat) := lw_privs_1 ++ (lw_privs_2)
def lw_tbl : List Cond := k2_sels lw_privs ++ tables_1
theorem lw_privs_ok : ∀ q ∈ lw_privs, lw_okq q := by
  show ∀ q ∈ lw_privs_1 ++ (lw_privs_2), lw_okq q
  exact List.forall_mem_append.mpr ⟨lw_r1, lw_r2⟩

def RX0 : String := "FitBench$Care"
def TX0 : u_T := fun k => match k with
  | 0 => ("FitBench$Care", "graded", "[I", true)
  | 1 => ("FitBench$Care", "count", "I", false)
  | 2 => ("FitBench$Care", "picks", "[I", true)
  | 3 => ("FitBench$Care", "foundPicks", "[I", true)
  | 4 => ("FitBench$Care", "foundPrice", "I", false)
  | 5 => ("FitBench$Care", "restPrice", "[I", true)
  | 6 => ("FitBench$Care", "roomLow", "[I", true)
  | _ => ("FitBench$Care", "roomHigh", "[I", true)
def tyX0 : Nat → FieldType := fun k => match k with
  | 0 => .array .int
  | 1 => .int
  | 2 => .array .int
  | 3 => .array .int
  | 4 => .int
  | 5 => .array .int
  | 6 => .array .int
  | _ => .array .int
theorem nmX0 : ∀ a, a < 8 → ∀ b, b < 8 → a ≠ b → (TX0 a).2.1 ≠ (TX0 b).2.1 := by decide +kernel
theorem tyX0_ok : ∀ k, k < 8 → parseFieldDescriptor (TX0 k).2.2.1 = some (tyX0 k) := by decide +kernel
abbrev cX0_init : ByteArray := prog_2_method_1_code
def yX0_init : MethodName := ⟨RX0, "<init>", "()V"⟩
abbrev cX0_seekCheapest : ByteArray := prog_2_method_2_code
def yX0_seekCheapest : MethodName := ⟨RX0, "seekCheapest", "(LFitBench$State;)I"⟩
abbrev cX0_gatherGraded : ByteArray := prog_2_method_3_code
def yX0_gatherGraded : MethodName := ⟨RX0, "gatherGraded", "([LFitBench$Measure;)V"⟩
abbrev cX0_leastPrice : ByteArray := prog_2_method_4_code
def yX0_leastPrice : MethodName := ⟨RX0, "leastPrice", "(LFitBench$Measure;)I"⟩
abbrev cX0_startRooms : ByteArray := prog_2_method_5_code
def yX0_startRooms : MethodName := ⟨RX0, "startRooms", "(LFitBench$State;)Z"⟩
abbrev cX0_pick : ByteArray := prog_2_method_6_code
def yX0_pick : MethodName := ⟨RX0, "pick", "(LFitBench$Care;LFitBench$State;II)V"⟩
abbrev cX0_narrow : ByteArray := prog_2_method_7_code
def yX0_narrow : MethodName := ⟨RX0, "narrow", "(LFitBench$State;II)Z"⟩
abbrev cX0_tellChoice : ByteArray := prog_2_method_8_code
def yX0_tellChoice : MethodName := ⟨RX0, "tellChoice", "([LFitBench$Measure;)V"⟩
def RX1 : String := "FitBench$Chain"
def TX1 : u_T := fun k => match k with
  | 0 => ("FitBench$Chain", "shares", "[I", true)
  | 1 => ("FitBench$Chain", "low", "I", false)
  | _ => ("FitBench$Chain", "high", "I", false)
def tyX1 : Nat → FieldType := fun k => match k with
  | 0 => .array .int
  | 1 => .int
  | _ => .int
theorem nmX1 : ∀ a, a < 3 → ∀ b, b < 3 → a ≠ b → (TX1 a).2.1 ≠ (TX1 b).2.1 := by decide +kernel
theorem tyX1_ok : ∀ k, k < 3 → parseFieldDescriptor (TX1 k).2.2.1 = some (tyX1 k) := by decide +kernel
abbrev cX1_init : ByteArray := prog_3_method_1_code
def yX1_init : MethodName := ⟨RX1, "<init>", "()V"⟩
abbrev cX1_isAsked : ByteArray := prog_3_method_2_code
def yX1_isAsked : MethodName := ⟨RX1, "isAsked", "()Z"⟩
abbrev cX1_plainGap : ByteArray := prog_3_method_3_code
def yX1_plainGap : MethodName := ⟨RX1, "plainGap", "([LFitBench$Measure;)I"⟩
abbrev cX1_leastGap : ByteArray := prog_3_method_4_code
def yX1_leastGap : MethodName := ⟨RX1, "leastGap", "([LFitBench$Measure;)I"⟩
abbrev cX1_greatestGap : ByteArray := prog_3_method_5_code
def yX1_greatestGap : MethodName := ⟨RX1, "greatestGap", "([LFitBench$Measure;)I"⟩
abbrev cX1_gapWidth : ByteArray := prog_3_method_6_code
def yX1_gapWidth : MethodName := ⟨RX1, "gapWidth", "([LFitBench$Measure;)I"⟩
abbrev cX1_takeAll : ByteArray := prog_3_method_7_code
def yX1_takeAll : MethodName := ⟨RX1, "takeAll", "(LFitBench$Chain;)V"⟩
def RX2 : String := "FitBench$Drawing"
def TX2 : u_T := fun k => match k with
  | 0 => ("FitBench$Drawing", "found", "[I", true)
  | 1 => ("FitBench$Drawing", "trail", "[I", true)
  | _ => ("FitBench$Drawing", "groups", "[I", true)
def tyX2 : Nat → FieldType := fun k => match k with
  | 0 => .array .int
  | 1 => .array .int
  | _ => .array .int
theorem nmX2 : ∀ a, a < 3 → ∀ b, b < 3 → a ≠ b → (TX2 a).2.1 ≠ (TX2 b).2.1 := by decide +kernel
theorem tyX2_ok : ∀ k, k < 3 → parseFieldDescriptor (TX2 k).2.2.1 = some (tyX2 k) := by decide +kernel
abbrev cX2_init : ByteArray := prog_4_method_1_code
def yX2_init : MethodName := ⟨RX2, "<init>", "()V"⟩
abbrev cX2_seekWays : ByteArray := prog_4_method_2_code
def yX2_seekWays : MethodName := ⟨RX2, "seekWays", "([LFitBench$Measure;II)I"⟩
abbrev cX2_walk : ByteArray := prog_4_method_3_code
def yX2_walk : MethodName := ⟨RX2, "walk", "(LFitBench$Drawing;[LFitBench$Measure;IIII)I"⟩
abbrev cX2_countClosing : ByteArray := prog_4_method_4_code
def yX2_countClosing : MethodName := ⟨RX2, "countClosing", "([LFitBench$Measure;)I"⟩
abbrev cX2_uniteGroups : ByteArray := prog_4_method_5_code
def yX2_uniteGroups : MethodName := ⟨RX2, "uniteGroups", "(II)V"⟩
def RX3 : String := "FitBench$Lot"
def TX3 : u_T := fun k => match k with
  | 0 => ("FitBench$Lot", "sizes", "[I", true)
  | _ => ("FitBench$Lot", "count", "I", false)
def tyX3 : Nat → FieldType := fun k => match k with
  | 0 => .array .int
  | _ => .int
theorem nmX3 : ∀ a, a < 2 → ∀ b, b < 2 → a ≠ b → (TX3 a).2.1 ≠ (TX3 b).2.1 := by decide +kernel
theorem tyX3_ok : ∀ k, k < 2 → parseFieldDescriptor (TX3 k).2.2.1 = some (tyX3 k) := by decide +kernel
abbrev cX3_init : ByteArray := prog_5_method_1_code
def yX3_init : MethodName := ⟨RX3, "<init>", "()V"⟩
abbrev cX3_leastWithin : ByteArray := prog_5_method_2_code
def yX3_leastWithin : MethodName := ⟨RX3, "leastWithin", "(III)I"⟩
abbrev cX3_takeAll : ByteArray := prog_5_method_3_code
def yX3_takeAll : MethodName := ⟨RX3, "takeAll", "(LFitBench$Lot;)V"⟩
def RX4 : String := "FitBench$Measure"
def TX4 : u_T := fun k => match k with
  | 0 => ("FitBench$Measure", "kind", "I", false)
  | 1 => ("FitBench$Measure", "size", "I", false)
  | 2 => ("FitBench$Measure", "below", "I", false)
  | 3 => ("FitBench$Measure", "above", "I", false)
  | 4 => ("FitBench$Measure", "booked", "Z", false)
  | 5 => ("FitBench$Measure", "numbers", "[I", true)
  | 6 => ("FitBench$Measure", "from", "I", false)
  | 7 => ("FitBench$Measure", "to", "I", false)
  | 8 => ("FitBench$Measure", "levels", "I", false)
  | 9 => ("FitBench$Measure", "levelBelow", "[I", true)
  | 10 => ("FitBench$Measure", "levelAbove", "[I", true)
  | 11 => ("FitBench$Measure", "levelPrice", "[I", true)
  | _ => ("FitBench$Measure", "chosen", "I", false)
def tyX4 : Nat → FieldType := fun k => match k with
  | 0 => .int
  | 1 => .int
  | 2 => .int
  | 3 => .int
  | 4 => .boolean
  | 5 => .array .int
  | 6 => .int
  | 7 => .int
  | 8 => .int
  | 9 => .array .int
  | 10 => .array .int
  | 11 => .array .int
  | _ => .int
theorem nmX4 : ∀ a, a < 13 → ∀ b, b < 13 → a ≠ b → (TX4 a).2.1 ≠ (TX4 b).2.1 := by decide +kernel
theorem tyX4_ok : ∀ k, k < 13 → parseFieldDescriptor (TX4 k).2.2.1 = some (tyX4 k) := by decide +kernel
abbrev cX4_init : ByteArray := prog_6_method_1_code
def yX4_init : MethodName := ⟨RX4, "<init>", "()V"⟩
abbrev cX4_numberAt : ByteArray := prog_6_method_2_code
def yX4_numberAt : MethodName := ⟨RX4, "numberAt", "(I)I"⟩
abbrev cX4_write : ByteArray := prog_6_method_3_code
def yX4_write : MethodName := ⟨RX4, "write", "(II)Z"⟩
abbrev cX4_lotSize : ByteArray := prog_6_method_4_code
def yX4_lotSize : MethodName := ⟨RX4, "lotSize", "()I"⟩
abbrev cX4_missSum : ByteArray := prog_6_method_5_code
def yX4_missSum : MethodName := ⟨RX4, "missSum", "()I"⟩
abbrev cX4_lessening : ByteArray := prog_6_method_6_code
def yX4_lessening : MethodName := ⟨RX4, "lessening", "(I)I"⟩
abbrev cX4_missRange : ByteArray := prog_6_method_7_code
def yX4_missRange : MethodName := ⟨RX4, "missRange", "()I"⟩
abbrev cX4_isGraded : ByteArray := prog_6_method_8_code
def yX4_isGraded : MethodName := ⟨RX4, "isGraded", "()Z"⟩
abbrev cX4_takeAll : ByteArray := prog_6_method_9_code
def yX4_takeAll : MethodName := ⟨RX4, "takeAll", "(LFitBench$Measure;)V"⟩
def RX5 : String := "FitBench$Spread"
def TX5 : u_T := fun k => match k with
  | 0 => ("FitBench$Spread", "rows", "I", false)
  | 1 => ("FitBench$Spread", "columns", "I", false)
  | 2 => ("FitBench$Spread", "first", "I", false)
  | 3 => ("FitBench$Spread", "last", "I", false)
  | 4 => ("FitBench$Spread", "row", "[J", false)
  | 5 => ("FitBench$Spread", "reach", "I", false)
  | 6 => ("FitBench$Spread", "changeAt", "[I", true)
  | 7 => ("FitBench$Spread", "changeBy", "[I", true)
  | _ => ("FitBench$Spread", "changes", "I", false)
def tyX5 : Nat → FieldType := fun k => match k with
  | 0 => .int
  | 1 => .int
  | 2 => .int
  | 3 => .int
  | 4 => .array .long
  | 5 => .int
  | 6 => .array .int
  | 7 => .array .int
  | _ => .int
theorem nmX5 : ∀ a, a < 9 → ∀ b, b < 9 → a ≠ b → (TX5 a).2.1 ≠ (TX5 b).2.1 := by decide +kernel
theorem tyX5_ok : ∀ k, k < 9 → parseFieldDescriptor (TX5 k).2.2.1 = some (tyX5 k) := by decide +kernel
abbrev cX5_init : ByteArray := prog_7_method_1_code
def yX5_init : MethodName := ⟨RX5, "<init>", "()V"⟩
abbrev cX5_lay : ByteArray := prog_7_method_2_code
def yX5_lay : MethodName := ⟨RX5, "lay", "([LFitBench$Measure;LFitBench$Chain;LFitBench$Chain;)Z"⟩
abbrev cX5_layReached : ByteArray := prog_7_method_3_code
def yX5_layReached : MethodName := ⟨RX5, "layReached", "([LFitBench$Measure;LFitBench$Chain;)V"⟩
abbrev cX5_at : ByteArray := prog_7_method_4_code
def yX5_at : MethodName := ⟨RX5, "at", "(II)J"⟩
abbrev cX5_seekNarrowest : ByteArray := prog_7_method_5_code
def yX5_seekNarrowest : MethodName := ⟨RX5, "seekNarrowest", "(JI)V"⟩
abbrev cX5_clear : ByteArray := prog_7_method_6_code
def yX5_clear : MethodName := ⟨RX5, "clear", "(II)Z"⟩
abbrev cX5_spreadBy : ByteArray := prog_7_method_7_code
def yX5_spreadBy : MethodName := ⟨RX5, "spreadBy", "(LFitBench$Measure;II)V"⟩
abbrev cX5_timesAll : ByteArray := prog_7_method_8_code
def yX5_timesAll : MethodName := ⟨RX5, "timesAll", "(I)V"⟩
abbrev cX5_noteChanges : ByteArray := prog_7_method_9_code
def yX5_noteChanges : MethodName := ⟨RX5, "noteChanges", "(LFitBench$Measure;Z)V"⟩
abbrev cX5_sumBy : ByteArray := prog_7_method_10_code
def yX5_sumBy : MethodName := ⟨RX5, "sumBy", "(II)V"⟩
abbrev cX5_weighChanges : ByteArray := prog_7_method_11_code
def yX5_weighChanges : MethodName := ⟨RX5, "weighChanges", "(III)V"⟩
abbrev cX5_reachBy : ByteArray := prog_7_method_12_code
def yX5_reachBy : MethodName := ⟨RX5, "reachBy", "(II)V"⟩
def RX6 : String := "FitBench$State"
def TX6 : u_T := fun k => match k with
  | 0 => ("FitBench$State", "measures", "[LFitBench$Measure;", true)
  | 1 => ("FitBench$State", "chains", "[LFitBench$Chain;", true)
  | 2 => ("FitBench$State", "lots", "[LFitBench$Lot;", true)
  | _ => ("FitBench$State", "mates", "[I", true)
def tyX6 : Nat → FieldType := fun k => match k with
  | 0 => .array (.object "FitBench$Measure")
  | 1 => .array (.object "FitBench$Chain")
  | 2 => .array (.object "FitBench$Lot")
  | _ => .array .int
theorem nmX6 : ∀ a, a < 4 → ∀ b, b < 4 → a ≠ b → (TX6 a).2.1 ≠ (TX6 b).2.1 := by decide +kernel
theorem tyX6_ok : ∀ k, k < 4 → parseFieldDescriptor (TX6 k).2.2.1 = some (tyX6 k) := by decide +kernel
abbrev cX6_init : ByteArray := prog_8_method_1_code
def yX6_init : MethodName := ⟨RX6, "<init>", "()V"⟩
abbrev cX6_countParts : ByteArray := prog_8_method_2_code
def yX6_countParts : MethodName := ⟨RX6, "countParts", "(LFitBench$Chain;LFitBench$Chain;)J"⟩
abbrev cX6_countGraded : ByteArray := prog_8_method_3_code
def yX6_countGraded : MethodName := ⟨RX6, "countGraded", "()I"⟩
abbrev cX6_pairLots : ByteArray := prog_8_method_4_code
def yX6_pairLots : MethodName := ⟨RX6, "pairLots", "(II)I"⟩
abbrev cX6_takeAll : ByteArray := prog_8_method_5_code
def yX6_takeAll : MethodName := ⟨RX6, "takeAll", "(LFitBench$State;)V"⟩
def RX7 : String := "FitBench"
def TX7 : u_T := fun k => match k with
  | 0 => ("FitBench", "now", "LFitBench$State;", true)
  | 1 => ("FitBench", "kept", "[LFitBench$State;", true)
  | 2 => ("FitBench", "flat", "LFitBench$Chain;", true)
  | 3 => ("FitBench", "drawing", "LFitBench$Drawing;", true)
  | 4 => ("FitBench", "spread", "LFitBench$Spread;", true)
  | _ => ("FitBench", "care", "LFitBench$Care;", true)
def tyX7 : Nat → FieldType := fun k => match k with
  | 0 => .object "FitBench$State"
  | 1 => .array (.object "FitBench$State")
  | 2 => .object "FitBench$Chain"
  | 3 => .object "FitBench$Drawing"
  | 4 => .object "FitBench$Spread"
  | _ => .object "FitBench$Care"
theorem nmX7 : ∀ a, a < 6 → ∀ b, b < 6 → a ≠ b → (TX7 a).2.1 ≠ (TX7 b).2.1 := by decide +kernel
theorem tyX7_ok : ∀ k, k < 6 → parseFieldDescriptor (TX7 k).2.2.1 = some (tyX7 k) := by decide +kernel
abbrev cX7_init : ByteArray := prog_1_method_1_code
def yX7_init : MethodName := ⟨RX7, "<init>", "()V"⟩
abbrev cX7_measure : ByteArray := prog_1_method_2_code
def yX7_measure : MethodName := ⟨RX7, "measure", "(IIIII)Z"⟩
abbrev cX7_book : ByteArray := prog_1_method_3_code
def yX7_book : MethodName := ⟨RX7, "book", "(III)Z"⟩
abbrev cX7_tear : ByteArray := prog_1_method_4_code
def yX7_tear : MethodName := ⟨RX7, "tear", "(I)Z"⟩
abbrev cX7_of : ByteArray := prog_1_method_5_code
def yX7_of : MethodName := ⟨RX7, "of", "(II)I"⟩
abbrev cX7_share : ByteArray := prog_1_method_6_code
def yX7_share : MethodName := ⟨RX7, "share", "(III)Z"⟩
abbrev cX7_ends : ByteArray := prog_1_method_7_code
def yX7_ends : MethodName := ⟨RX7, "ends", "(III)Z"⟩
abbrev cX7_chain : ByteArray := prog_1_method_8_code
def yX7_chain : MethodName := ⟨RX7, "chain", "(II)I"⟩
abbrev cX7_join : ByteArray := prog_1_method_9_code
def yX7_join : MethodName := ⟨RX7, "join", "(III)Z"⟩
abbrev cX7_round : ByteArray := prog_1_method_10_code
def yX7_round : MethodName := ⟨RX7, "round", "(III)I"⟩
abbrev cX7_over : ByteArray := prog_1_method_11_code
def yX7_over : MethodName := ⟨RX7, "over", "()I"⟩
abbrev cX7_worst : ByteArray := prog_1_method_12_code
def yX7_worst : MethodName := ⟨RX7, "worst", "(II)I"⟩
abbrev cX7_corner : ByteArray := prog_1_method_13_code
def yX7_corner : MethodName := ⟨RX7, "corner", "(III)I"⟩
abbrev cX7_always : ByteArray := prog_1_method_14_code
def yX7_always : MethodName := ⟨RX7, "always", "(I)I"⟩
abbrev cX7_chance : ByteArray := prog_1_method_15_code
def yX7_chance : MethodName := ⟨RX7, "chance", "(II)J"⟩
abbrev cX7_both : ByteArray := prog_1_method_16_code
def yX7_both : MethodName := ⟨RX7, "both", "(III)J"⟩
abbrev cX7_mean : ByteArray := prog_1_method_17_code
def yX7_mean : MethodName := ⟨RX7, "mean", "(II)J"⟩
abbrev cX7_span : ByteArray := prog_1_method_18_code
def yX7_span : MethodName := ⟨RX7, "span", "(IIII)I"⟩
abbrev cX7_pull : ByteArray := prog_1_method_19_code
def yX7_pull : MethodName := ⟨RX7, "pull", "(II)I"⟩
abbrev cX7_level : ByteArray := prog_1_method_20_code
def yX7_level : MethodName := ⟨RX7, "level", "(IIII)I"⟩
abbrev cX7_plain : ByteArray := prog_1_method_21_code
def yX7_plain : MethodName := ⟨RX7, "plain", "(I)I"⟩
abbrev cX7_best : ByteArray := prog_1_method_22_code
def yX7_best : MethodName := ⟨RX7, "best", "()J"⟩
abbrev cX7_choice : ByteArray := prog_1_method_23_code
def yX7_choice : MethodName := ⟨RX7, "choice", "(I)I"⟩
abbrev cX7_part : ByteArray := prog_1_method_24_code
def yX7_part : MethodName := ⟨RX7, "part", "(II)I"⟩
abbrev cX7_sweep : ByteArray := prog_1_method_25_code
def yX7_sweep : MethodName := ⟨RX7, "sweep", "(I)I"⟩
abbrev cX7_match : ByteArray := prog_1_method_26_code
def yX7_match : MethodName := ⟨RX7, "match", "(II)I"⟩
abbrev cX7_mate : ByteArray := prog_1_method_27_code
def yX7_mate : MethodName := ⟨RX7, "mate", "(I)I"⟩
abbrev cX7_shim : ByteArray := prog_1_method_28_code
def yX7_shim : MethodName := ⟨RX7, "shim", "(III)I"⟩
abbrev cX7_image : ByteArray := prog_1_method_29_code
def yX7_image : MethodName := ⟨RX7, "image", "(I)Z"⟩
abbrev cX7_back : ByteArray := prog_1_method_30_code
def yX7_back : MethodName := ⟨RX7, "back", "(I)Z"⟩
abbrev cX7_within : ByteArray := prog_1_method_31_code
def yX7_within : MethodName := ⟨RX7, "within", "(III)Z"⟩
abbrev cX7_isMeasure : ByteArray := prog_1_method_32_code
def yX7_isMeasure : MethodName := ⟨RX7, "isMeasure", "(I)Z"⟩
abbrev cX7_isChain : ByteArray := prog_1_method_33_code
def yX7_isChain : MethodName := ⟨RX7, "isChain", "(I)Z"⟩
abbrev cX7_isFace : ByteArray := prog_1_method_34_code
def yX7_isFace : MethodName := ⟨RX7, "isFace", "(I)Z"⟩
abbrev cX7_isLot : ByteArray := prog_1_method_35_code
def yX7_isLot : MethodName := ⟨RX7, "isLot", "(I)Z"⟩
abbrev cX7_isPlace : ByteArray := prog_1_method_36_code
def yX7_isPlace : MethodName := ⟨RX7, "isPlace", "(I)Z"⟩
abbrev cX7_canMiss : ByteArray := prog_1_method_37_code
def yX7_canMiss : MethodName := ⟨RX7, "canMiss", "(II)Z"⟩
abbrev cX7_rightOf : ByteArray := prog_1_method_38_code
def yX7_rightOf : MethodName := ⟨RX7, "rightOf", "(LFitBench$Chain;LFitBench$Chain;I)J"⟩
abbrev cX7_lineOf : ByteArray := prog_1_method_39_code
def yX7_lineOf : MethodName := ⟨RX7, "lineOf", "(JJI)J"⟩
abbrev cX7_commonDivisor : ByteArray := prog_1_method_40_code
def yX7_commonDivisor : MethodName := ⟨RX7, "commonDivisor", "(JJ)J"⟩
abbrev cX7_stepsFor : ByteArray := prog_1_method_41_code
def yX7_stepsFor : MethodName := ⟨RX7, "stepsFor", "(LFitBench$Chain;III)I"⟩
def RX8 : String := "FitBenchModel"
def TX8 : u_T := fun k => match k with
  | 0 => ("FitBenchModel", "d", "[I", true)
  | 1 => ("FitBenchModel", "isKept", "[Z", true)
  | 2 => ("FitBenchModel", "way", "[I", true)
  | 3 => ("FitBenchModel", "by", "[I", true)
  | 4 => ("FitBenchModel", "found", "[I", true)
  | 5 => ("FitBenchModel", "piece", "[I", true)
  | 6 => ("FitBenchModel", "count", "[J", true)
  | 7 => ("FitBenchModel", "next", "[J", true)
  | 8 => ("FitBenchModel", "now", "[I", true)
  | 9 => ("FitBenchModel", "first", "[I", true)
  | 10 => ("FitBenchModel", "isDone", "[Z", true)
  | 11 => ("FitBenchModel", "isTaken", "[Z", true)
  | 12 => ("FitBenchModel", "can", "[Z", true)
  | _ => ("FitBenchModel", "canThen", "[Z", true)
def tyX8 : Nat → FieldType := fun k => match k with
  | 0 => .array .int
  | 1 => .array .boolean
  | 2 => .array .int
  | 3 => .array .int
  | 4 => .array .int
  | 5 => .array .int
  | 6 => .array .long
  | 7 => .array .long
  | 8 => .array .int
  | 9 => .array .int
  | 10 => .array .boolean
  | 11 => .array .boolean
  | 12 => .array .boolean
  | _ => .array .boolean
theorem nmX8 : ∀ a, a < 14 → ∀ b, b < 14 → a ≠ b → (TX8 a).2.1 ≠ (TX8 b).2.1 := by decide +kernel
theorem tyX8_ok : ∀ k, k < 14 → parseFieldDescriptor (TX8 k).2.2.1 = some (tyX8 k) := by decide +kernel
abbrev cX8_init : ByteArray := prog_10_method_1_code
def yX8_init : MethodName := ⟨RX8, "<init>", "()V"⟩
abbrev cX8_image : ByteArray := prog_10_method_2_code
def yX8_image : MethodName := ⟨RX8, "image", "(I)Z"⟩
abbrev cX8_back : ByteArray := prog_10_method_3_code
def yX8_back : MethodName := ⟨RX8, "back", "(I)Z"⟩
abbrev cX8_isMeasure : ByteArray := prog_10_method_4_code
def yX8_isMeasure : MethodName := ⟨RX8, "isMeasure", "(I)Z"⟩
abbrev cX8_isMiss : ByteArray := prog_10_method_5_code
def yX8_isMiss : MethodName := ⟨RX8, "isMiss", "(II)Z"⟩
abbrev cX8_isSize : ByteArray := prog_10_method_6_code
def yX8_isSize : MethodName := ⟨RX8, "isSize", "(I)Z"⟩
abbrev cX8_measure : ByteArray := prog_10_method_7_code
def yX8_measure : MethodName := ⟨RX8, "measure", "(IIIII)Z"⟩
abbrev cX8_many : ByteArray := prog_10_method_8_code
def yX8_many : MethodName := ⟨RX8, "many", "(II)I"⟩
abbrev cX8_book : ByteArray := prog_10_method_9_code
def yX8_book : MethodName := ⟨RX8, "book", "(III)Z"⟩
abbrev cX8_tear : ByteArray := prog_10_method_10_code
def yX8_tear : MethodName := ⟨RX8, "tear", "(I)Z"⟩
abbrev cX8_of : ByteArray := prog_10_method_11_code
def yX8_of : MethodName := ⟨RX8, "of", "(II)I"⟩
abbrev cX8_isChain : ByteArray := prog_10_method_12_code
def yX8_isChain : MethodName := ⟨RX8, "isChain", "(I)Z"⟩
abbrev cX8_share : ByteArray := prog_10_method_13_code
def yX8_share : MethodName := ⟨RX8, "share", "(III)Z"⟩
abbrev cX8_ends : ByteArray := prog_10_method_14_code
def yX8_ends : MethodName := ⟨RX8, "ends", "(III)Z"⟩
abbrev cX8_isAsked : ByteArray := prog_10_method_15_code
def yX8_isAsked : MethodName := ⟨RX8, "isAsked", "(I)Z"⟩
abbrev cX8_chain : ByteArray := prog_10_method_16_code
def yX8_chain : MethodName := ⟨RX8, "chain", "(II)I"⟩
abbrev cX8_isFace : ByteArray := prog_10_method_17_code
def yX8_isFace : MethodName := ⟨RX8, "isFace", "(I)Z"⟩
abbrev cX8_join : ByteArray := prog_10_method_18_code
def yX8_join : MethodName := ⟨RX8, "join", "(III)Z"⟩
abbrev cX8_otherFace : ByteArray := prog_10_method_19_code
def yX8_otherFace : MethodName := ⟨RX8, "otherFace", "(II)I"⟩
abbrev cX8_round : ByteArray := prog_10_method_20_code
def yX8_round : MethodName := ⟨RX8, "round", "(III)I"⟩
abbrev cX8_over : ByteArray := prog_10_method_21_code
def yX8_over : MethodName := ⟨RX8, "over", "()I"⟩
abbrev cX8_lowMiss : ByteArray := prog_10_method_22_code
def yX8_lowMiss : MethodName := ⟨RX8, "lowMiss", "(I)I"⟩
abbrev cX8_highMiss : ByteArray := prog_10_method_23_code
def yX8_highMiss : MethodName := ⟨RX8, "highMiss", "(I)I"⟩
abbrev cX8_shareOf : ByteArray := prog_10_method_24_code
def yX8_shareOf : MethodName := ⟨RX8, "shareOf", "(II)I"⟩
abbrev cX8_corner : ByteArray := prog_10_method_25_code
def yX8_corner : MethodName := ⟨RX8, "corner", "(III)I"⟩
abbrev cX8_worst : ByteArray := prog_10_method_26_code
def yX8_worst : MethodName := ⟨RX8, "worst", "(II)I"⟩
abbrev cX8_always : ByteArray := prog_10_method_27_code
def yX8_always : MethodName := ⟨RX8, "always", "(I)I"⟩
abbrev cX8_wide : ByteArray := prog_10_method_28_code
def yX8_wide : MethodName := ⟨RX8, "wide", "(I)I"⟩
abbrev cX8_parts : ByteArray := prog_10_method_29_code
def yX8_parts : MethodName := ⟨RX8, "parts", "(II)J"⟩
abbrev cX8_common : ByteArray := prog_10_method_30_code
def yX8_common : MethodName := ⟨RX8, "common", "(JJ)J"⟩
abbrev cX8_lowest : ByteArray := prog_10_method_31_code
def yX8_lowest : MethodName := ⟨RX8, "lowest", "(JJI)J"⟩
abbrev cX8_counts : ByteArray := prog_10_method_32_code
def yX8_counts : MethodName := ⟨RX8, "counts", "(IIZ)V"⟩
abbrev cX8_chance : ByteArray := prog_10_method_33_code
def yX8_chance : MethodName := ⟨RX8, "chance", "(II)J"⟩
abbrev cX8_both : ByteArray := prog_10_method_34_code
def yX8_both : MethodName := ⟨RX8, "both", "(III)J"⟩
abbrev cX8_mean : ByteArray := prog_10_method_35_code
def yX8_mean : MethodName := ⟨RX8, "mean", "(II)J"⟩
abbrev cX8_span : ByteArray := prog_10_method_36_code
def yX8_span : MethodName := ⟨RX8, "span", "(IIII)I"⟩
abbrev cX8_pull : ByteArray := prog_10_method_37_code
def yX8_pull : MethodName := ⟨RX8, "pull", "(II)I"⟩
abbrev cX8_level : ByteArray := prog_10_method_38_code
def yX8_level : MethodName := ⟨RX8, "level", "(IIII)I"⟩
abbrev cX8_plain : ByteArray := prog_10_method_39_code
def yX8_plain : MethodName := ⟨RX8, "plain", "(I)I"⟩
abbrev cX8_isChosen : ByteArray := prog_10_method_40_code
def yX8_isChosen : MethodName := ⟨RX8, "isChosen", "(I)Z"⟩
abbrev cX8_isGood : ByteArray := prog_10_method_41_code
def yX8_isGood : MethodName := ⟨RX8, "isGood", "()Z"⟩
abbrev cX8_goesOn : ByteArray := prog_10_method_42_code
def yX8_goesOn : MethodName := ⟨RX8, "goesOn", "()Z"⟩
abbrev cX8_best : ByteArray := prog_10_method_43_code
def yX8_best : MethodName := ⟨RX8, "best", "()J"⟩
abbrev cX8_choice : ByteArray := prog_10_method_44_code
def yX8_choice : MethodName := ⟨RX8, "choice", "(I)I"⟩
abbrev cX8_isLot : ByteArray := prog_10_method_45_code
def yX8_isLot : MethodName := ⟨RX8, "isLot", "(I)Z"⟩
abbrev cX8_part : ByteArray := prog_10_method_46_code
def yX8_part : MethodName := ⟨RX8, "part", "(II)I"⟩
abbrev cX8_sweep : ByteArray := prog_10_method_47_code
def yX8_sweep : MethodName := ⟨RX8, "sweep", "(I)I"⟩
abbrev cX8_match : ByteArray := prog_10_method_48_code
def yX8_match : MethodName := ⟨RX8, "match", "(II)I"⟩
abbrev cX8_mate : ByteArray := prog_10_method_49_code
def yX8_mate : MethodName := ⟨RX8, "mate", "(I)I"⟩
abbrev cX8_gapsThatCanBe : ByteArray := prog_10_method_50_code
def yX8_gapsThatCanBe : MethodName := ⟨RX8, "gapsThatCanBe", "(I)V"⟩
abbrev cX8_floor : ByteArray := prog_10_method_51_code
def yX8_floor : MethodName := ⟨RX8, "floor", "(II)I"⟩
abbrev cX8_shim : ByteArray := prog_10_method_52_code
def yX8_shim : MethodName := ⟨RX8, "shim", "(III)I"⟩
def RJ9 : String := "java/lang/Math"
def TJ9 : u_T := fun k => match k with
  | _ => ("", "", "", false)
def tyJ9 : Nat → FieldType := fun k => match k with
  | _ => .int
abbrev cJ9_floorDiv_7cf53 : ByteArray := prog_11_method_47_code
def yJ9_floorDiv_7cf53 : MethodName := ⟨RJ9, "floorDiv", "(II)I"⟩
abbrev cJ9_abs_0f7a4 : ByteArray := prog_11_method_59_code
def yJ9_abs_0f7a4 : MethodName := ⟨RJ9, "abs", "(I)I"⟩
abbrev cJ9_abs_067f4 : ByteArray := prog_11_method_61_code
def yJ9_abs_067f4 : MethodName := ⟨RJ9, "abs", "(J)J"⟩
abbrev cJ9_max_7cf53 : ByteArray := prog_11_method_65_code
def yJ9_max_7cf53 : MethodName := ⟨RJ9, "max", "(II)I"⟩
abbrev cJ9_min_7cf53 : ByteArray := prog_11_method_69_code
def yJ9_min_7cf53 : MethodName := ⟨RJ9, "min", "(II)I"⟩
def RJ10 : String := "java/lang/System"
def TJ10 : u_T := fun k => match k with
  | _ => ("", "", "", false)
def tyJ10 : Nat → FieldType := fun k => match k with
  | _ => .int
def RJ7 : String := "java/util/Arrays"
def TJ7 : u_T := fun k => match k with
  | _ => ("", "", "", false)
def tyJ7 : Nat → FieldType := fun k => match k with
  | _ => .int
abbrev cJ7_rangeCheck_23922 : ByteArray := prog_13_method_30_code
def yJ7_rangeCheck_23922 : MethodName := ⟨RJ7, "rangeCheck", "(III)V"⟩
abbrev cJ7_fill_bad5a : ByteArray := prog_13_method_102_code
def yJ7_fill_bad5a : MethodName := ⟨RJ7, "fill", "([JIIJ)V"⟩
abbrev cJ7_fill_53178 : ByteArray := prog_13_method_103_code
def yJ7_fill_53178 : MethodName := ⟨RJ7, "fill", "([II)V"⟩
def RL : String := "FitBenchLaw"
abbrev cL_law : ByteArray := code
