section
-- ===== PART A: goes FIRST, ahead of the names: the tables' words, and 'selects' of the private methods out of them =====
/-- a private method of a class that the tables say can be made, by its rows of tables_1 -/
def lw_okq (q : MethodName × Nat) : Prop := (q.1.cls ≠ "java/lang/invoke/MethodHandle" ∧ q.1.cls ≠ "java/lang/invoke/VarHandle") ∧ Cond.instantiable q.1.cls q.2 ∈ tables_1 ∧ Cond.privateMethod q.1 ∈ tables_1 ∧ Cond.instanceMethod q.1 ∈ tables_1
theorem lw_p0 : lw_okq (⟨"LeatDays", "found", "(I)I"⟩, 14) := ⟨⟨by decide +kernel, by decide +kernel⟩, List.mem_of_getElem? (i := 11) (by decide +kernel), List.mem_of_getElem? (i := 166) (by decide +kernel), List.mem_of_getElem? (i := 167) (by decide +kernel)⟩
theorem lw_p1 : lw_okq (⟨"LeatDays", "doAgain", "()V"⟩, 14) := ⟨⟨by decide +kernel, by decide +kernel⟩, List.mem_of_getElem? (i := 11) (by decide +kernel), List.mem_of_getElem? (i := 245) (by decide +kernel), List.mem_of_getElem? (i := 246) (by decide +kernel)⟩
theorem lw_p2 : lw_okq (⟨"LeatDays", "apply", "(II)I"⟩, 14) := ⟨⟨by decide +kernel, by decide +kernel⟩, List.mem_of_getElem? (i := 11) (by decide +kernel), List.mem_of_getElem? (i := 253) (by decide +kernel), List.mem_of_getElem? (i := 254) (by decide +kernel)⟩
theorem lw_p3 : lw_okq (⟨"LeatDays", "isDay", "(I)Z"⟩, 14) := ⟨⟨by decide +kernel, by decide +kernel⟩, List.mem_of_getElem? (i := 11) (by decide +kernel), List.mem_of_getElem? (i := 297) (by decide +kernel), List.mem_of_getElem? (i := 298) (by decide +kernel)⟩
theorem lw_p4 : lw_okq (⟨"LeatDays", "toldOfDay", "(II)I"⟩, 14) := ⟨⟨by decide +kernel, by decide +kernel⟩, List.mem_of_getElem? (i := 11) (by decide +kernel), List.mem_of_getElem? (i := 301) (by decide +kernel), List.mem_of_getElem? (i := 302) (by decide +kernel)⟩
theorem lw_p5 : lw_okq (⟨"LeatDays", "markOf", "(II)I"⟩, 14) := ⟨⟨by decide +kernel, by decide +kernel⟩, List.mem_of_getElem? (i := 11) (by decide +kernel), List.mem_of_getElem? (i := 318) (by decide +kernel), List.mem_of_getElem? (i := 319) (by decide +kernel)⟩
theorem lw_p6 : lw_okq (⟨"LeatDays", "leavesMoreThan", "(II)I"⟩, 14) := ⟨⟨by decide +kernel, by decide +kernel⟩, List.mem_of_getElem? (i := 11) (by decide +kernel), List.mem_of_getElem? (i := 322) (by decide +kernel), List.mem_of_getElem? (i := 323) (by decide +kernel)⟩
theorem lw_p7 : lw_okq (⟨"LeatDays", "grindsMoreThan", "(II)I"⟩, 14) := ⟨⟨by decide +kernel, by decide +kernel⟩, List.mem_of_getElem? (i := 11) (by decide +kernel), List.mem_of_getElem? (i := 330) (by decide +kernel), List.mem_of_getElem? (i := 331) (by decide +kernel)⟩
theorem lw_p8 : lw_okq (⟨"LeatDays", "noDays", "()Z"⟩, 14) := ⟨⟨by decide +kernel, by decide +kernel⟩, List.mem_of_getElem? (i := 11) (by decide +kernel), List.mem_of_getElem? (i := 342) (by decide +kernel), List.mem_of_getElem? (i := 343) (by decide +kernel)⟩
theorem lw_p9 : lw_okq (⟨"LeatDays", "doDeed", "(II)I"⟩, 14) := ⟨⟨by decide +kernel, by decide +kernel⟩, List.mem_of_getElem? (i := 11) (by decide +kernel), List.mem_of_getElem? (i := 350) (by decide +kernel), List.mem_of_getElem? (i := 351) (by decide +kernel)⟩
theorem lw_p10 : lw_okq (⟨"LeatDays", "startTrial", "()V"⟩, 14) := ⟨⟨by decide +kernel, by decide +kernel⟩, List.mem_of_getElem? (i := 11) (by decide +kernel), List.mem_of_getElem? (i := 394) (by decide +kernel), List.mem_of_getElem? (i := 395) (by decide +kernel)⟩
theorem lw_p11 : lw_okq (⟨"LeatDays", "groundIn", "(ILLeatDays$Days;)I"⟩, 14) := ⟨⟨by decide +kernel, by decide +kernel⟩, List.mem_of_getElem? (i := 11) (by decide +kernel), List.mem_of_getElem? (i := 402) (by decide +kernel), List.mem_of_getElem? (i := 403) (by decide +kernel)⟩
theorem lw_p12 : lw_okq (⟨"LeatDays", "bestSetting", "(I)I"⟩, 14) := ⟨⟨by decide +kernel, by decide +kernel⟩, List.mem_of_getElem? (i := 11) (by decide +kernel), List.mem_of_getElem? (i := 422) (by decide +kernel), List.mem_of_getElem? (i := 423) (by decide +kernel)⟩
theorem lw_p13 : lw_okq (⟨"LeatDays", "mostSetting", "(LLeatDays$Wheel;II)I"⟩, 14) := ⟨⟨by decide +kernel, by decide +kernel⟩, List.mem_of_getElem? (i := 11) (by decide +kernel), List.mem_of_getElem? (i := 426) (by decide +kernel), List.mem_of_getElem? (i := 427) (by decide +kernel)⟩
theorem lw_p14 : lw_okq (⟨"LeatDays", "groundRaking", "(II)I"⟩, 14) := ⟨⟨by decide +kernel, by decide +kernel⟩, List.mem_of_getElem? (i := 11) (by decide +kernel), List.mem_of_getElem? (i := 441) (by decide +kernel), List.mem_of_getElem? (i := 442) (by decide +kernel)⟩
theorem lw_p15 : lw_okq (⟨"LeatDays", "grindsSo", "(LLeatDays$Strip;LLeatDays$Days;I)Z"⟩, 14) := ⟨⟨by decide +kernel, by decide +kernel⟩, List.mem_of_getElem? (i := 11) (by decide +kernel), List.mem_of_getElem? (i := 456) (by decide +kernel), List.mem_of_getElem? (i := 457) (by decide +kernel)⟩
def lw_privs_1 : List (MethodName × Nat) := [(⟨"LeatDays", "found", "(I)I"⟩, 14), (⟨"LeatDays", "doAgain", "()V"⟩, 14), (⟨"LeatDays", "apply", "(II)I"⟩, 14), (⟨"LeatDays", "isDay", "(I)Z"⟩, 14), (⟨"LeatDays", "toldOfDay", "(II)I"⟩, 14), (⟨"LeatDays", "markOf", "(II)I"⟩, 14), (⟨"LeatDays", "leavesMoreThan", "(II)I"⟩, 14), (⟨"LeatDays", "grindsMoreThan", "(II)I"⟩, 14), (⟨"LeatDays", "noDays", "()Z"⟩, 14), (⟨"LeatDays", "doDeed", "(II)I"⟩, 14), (⟨"LeatDays", "startTrial", "()V"⟩, 14), (⟨"LeatDays", "groundIn", "(ILLeatDays$Days;)I"⟩, 14), (⟨"LeatDays", "bestSetting", "(I)I"⟩, 14), (⟨"LeatDays", "mostSetting", "(LLeatDays$Wheel;II)I"⟩, 14), (⟨"LeatDays", "groundRaking", "(II)I"⟩, 14), (⟨"LeatDays", "grindsSo", "(LLeatDays$Strip;LLeatDays$Days;I)Z"⟩, 14)]
theorem lw_r1 : ∀ q ∈ lw_privs_1, lw_okq q := List.forall_mem_cons.mpr ⟨lw_p0, List.forall_mem_cons.mpr ⟨lw_p1, List.forall_mem_cons.mpr ⟨lw_p2, List.forall_mem_cons.mpr ⟨lw_p3, List.forall_mem_cons.mpr ⟨lw_p4, List.forall_mem_cons.mpr ⟨lw_p5, List.forall_mem_cons.mpr ⟨lw_p6, List.forall_mem_cons.mpr ⟨lw_p7, List.forall_mem_cons.mpr ⟨lw_p8, List.forall_mem_cons.mpr ⟨lw_p9, List.forall_mem_cons.mpr ⟨lw_p10, List.forall_mem_cons.mpr ⟨lw_p11, List.forall_mem_cons.mpr ⟨lw_p12, List.forall_mem_cons.mpr ⟨lw_p13, List.forall_mem_cons.mpr ⟨lw_p14, List.forall_mem_cons.mpr ⟨lw_p15, fun _ h => absurd h List.not_mem_nil⟩⟩⟩⟩⟩⟩⟩⟩⟩⟩⟩⟩⟩⟩⟩⟩
theorem lw_p16 : lw_okq (⟨"LeatDays", "greatestPart", "(II)I"⟩, 14) := ⟨⟨by decide +kernel, by decide +kernel⟩, List.mem_of_getElem? (i := 11) (by decide +kernel), List.mem_of_getElem? (i := 472) (by decide +kernel), List.mem_of_getElem? (i := 473) (by decide +kernel)⟩
theorem lw_p17 : lw_okq (⟨"LeatDays", "kindsGrinding", "(III)I"⟩, 14) := ⟨⟨by decide +kernel, by decide +kernel⟩, List.mem_of_getElem? (i := 11) (by decide +kernel), List.mem_of_getElem? (i := 476) (by decide +kernel), List.mem_of_getElem? (i := 477) (by decide +kernel)⟩
theorem lw_p18 : lw_okq (⟨"LeatDays", "millersTurn", "(III)I"⟩, 14) := ⟨⟨by decide +kernel, by decide +kernel⟩, List.mem_of_getElem? (i := 11) (by decide +kernel), List.mem_of_getElem? (i := 484) (by decide +kernel), List.mem_of_getElem? (i := 485) (by decide +kernel)⟩
theorem lw_p19 : lw_okq (⟨"LeatDays", "groundAfterDuel", "(II)I"⟩, 14) := ⟨⟨by decide +kernel, by decide +kernel⟩, List.mem_of_getElem? (i := 11) (by decide +kernel), List.mem_of_getElem? (i := 488) (by decide +kernel), List.mem_of_getElem? (i := 489) (by decide +kernel)⟩
theorem lw_p20 : lw_okq (⟨"LeatDays", "throwersTurn", "(III)I"⟩, 14) := ⟨⟨by decide +kernel, by decide +kernel⟩, List.mem_of_getElem? (i := 11) (by decide +kernel), List.mem_of_getElem? (i := 492) (by decide +kernel), List.mem_of_getElem? (i := 493) (by decide +kernel)⟩
theorem lw_p21 : lw_okq (⟨"LeatDays", "groundWithDry", "(I)I"⟩, 14) := ⟨⟨by decide +kernel, by decide +kernel⟩, List.mem_of_getElem? (i := 11) (by decide +kernel), List.mem_of_getElem? (i := 501) (by decide +kernel), List.mem_of_getElem? (i := 502) (by decide +kernel)⟩
theorem lw_p22 : lw_okq (⟨"LeatDays", "tell", "(JJ)V"⟩, 14) := ⟨⟨by decide +kernel, by decide +kernel⟩, List.mem_of_getElem? (i := 11) (by decide +kernel), List.mem_of_getElem? (i := 513) (by decide +kernel), List.mem_of_getElem? (i := 514) (by decide +kernel)⟩
theorem lw_p23 : lw_okq (⟨"LeatDays", "doByLot", "(I)V"⟩, 14) := ⟨⟨by decide +kernel, by decide +kernel⟩, List.mem_of_getElem? (i := 11) (by decide +kernel), List.mem_of_getElem? (i := 531) (by decide +kernel), List.mem_of_getElem? (i := 532) (by decide +kernel)⟩
theorem lw_p24 : lw_okq (⟨"LeatDays", "keptThere", "()I"⟩, 14) := ⟨⟨by decide +kernel, by decide +kernel⟩, List.mem_of_getElem? (i := 11) (by decide +kernel), List.mem_of_getElem? (i := 554) (by decide +kernel), List.mem_of_getElem? (i := 555) (by decide +kernel)⟩
theorem lw_p25 : lw_okq (⟨"LeatDaysModel", "finds", "(I)I"⟩, 22) := ⟨⟨by decide +kernel, by decide +kernel⟩, List.mem_of_getElem? (i := 583) (by decide +kernel), List.mem_of_getElem? (i := 665) (by decide +kernel), List.mem_of_getElem? (i := 666) (by decide +kernel)⟩
theorem lw_p26 : lw_okq (⟨"LeatDaysModel", "begins", "(II)V"⟩, 22) := ⟨⟨by decide +kernel, by decide +kernel⟩, List.mem_of_getElem? (i := 583) (by decide +kernel), List.mem_of_getElem? (i := 669) (by decide +kernel), List.mem_of_getElem? (i := 670) (by decide +kernel)⟩
theorem lw_p27 : lw_okq (⟨"LeatDaysModel", "reads", "(I)I"⟩, 22) := ⟨⟨by decide +kernel, by decide +kernel⟩, List.mem_of_getElem? (i := 583) (by decide +kernel), List.mem_of_getElem? (i := 706) (by decide +kernel), List.mem_of_getElem? (i := 707) (by decide +kernel)⟩
theorem lw_p28 : lw_okq (⟨"LeatDaysModel", "byteAt", "(II)I"⟩, 22) := ⟨⟨by decide +kernel, by decide +kernel⟩, List.mem_of_getElem? (i := 583) (by decide +kernel), List.mem_of_getElem? (i := 710) (by decide +kernel), List.mem_of_getElem? (i := 711) (by decide +kernel)⟩
theorem lw_p29 : lw_okq (⟨"LeatDaysModel", "isDay", "(I)Z"⟩, 22) := ⟨⟨by decide +kernel, by decide +kernel⟩, List.mem_of_getElem? (i := 583) (by decide +kernel), List.mem_of_getElem? (i := 727) (by decide +kernel), List.mem_of_getElem? (i := 728) (by decide +kernel)⟩
theorem lw_p30 : lw_okq (⟨"LeatDaysModel", "dayTold", "(II)I"⟩, 22) := ⟨⟨by decide +kernel, by decide +kernel⟩, List.mem_of_getElem? (i := 583) (by decide +kernel), List.mem_of_getElem? (i := 731) (by decide +kernel), List.mem_of_getElem? (i := 732) (by decide +kernel)⟩
theorem lw_p31 : lw_okq (⟨"LeatDaysModel", "now", "()I"⟩, 22) := ⟨⟨by decide +kernel, by decide +kernel⟩, List.mem_of_getElem? (i := 583) (by decide +kernel), List.mem_of_getElem? (i := 735) (by decide +kernel), List.mem_of_getElem? (i := 736) (by decide +kernel)⟩
def lw_privs_2 : List (MethodName × Nat) := [(⟨"LeatDays", "greatestPart", "(II)I"⟩, 14), (⟨"LeatDays", "kindsGrinding", "(III)I"⟩, 14), (⟨"LeatDays", "millersTurn", "(III)I"⟩, 14), (⟨"LeatDays", "groundAfterDuel", "(II)I"⟩, 14), (⟨"LeatDays", "throwersTurn", "(III)I"⟩, 14), (⟨"LeatDays", "groundWithDry", "(I)I"⟩, 14), (⟨"LeatDays", "tell", "(JJ)V"⟩, 14), (⟨"LeatDays", "doByLot", "(I)V"⟩, 14), (⟨"LeatDays", "keptThere", "()I"⟩, 14), (⟨"LeatDaysModel", "finds", "(I)I"⟩, 22), (⟨"LeatDaysModel", "begins", "(II)V"⟩, 22), (⟨"LeatDaysModel", "reads", "(I)I"⟩, 22), (⟨"LeatDaysModel", "byteAt", "(II)I"⟩, 22), (⟨"LeatDaysModel", "isDay", "(I)Z"⟩, 22), (⟨"LeatDaysModel", "dayTold", "(II)I"⟩, 22), (⟨"LeatDaysModel", "now", "()I"⟩, 22)]
theorem lw_r2 : ∀ q ∈ lw_privs_2, lw_okq q := List.forall_mem_cons.mpr ⟨lw_p16, List.forall_mem_cons.mpr ⟨lw_p17, List.forall_mem_cons.mpr ⟨lw_p18, List.forall_mem_cons.mpr ⟨lw_p19, List.forall_mem_cons.mpr ⟨lw_p20, List.forall_mem_cons.mpr ⟨lw_p21, List.forall_mem_cons.mpr ⟨lw_p22, List.forall_mem_cons.mpr ⟨lw_p23, List.forall_mem_cons.mpr ⟨lw_p24, List.forall_mem_cons.mpr ⟨lw_p25, List.forall_mem_cons.mpr ⟨lw_p26, List.forall_mem_cons.mpr ⟨lw_p27, List.forall_mem_cons.mpr ⟨lw_p28, List.forall_mem_cons.mpr ⟨lw_p29, List.forall_mem_cons.mpr ⟨lw_p30, List.forall_mem_cons.mpr ⟨lw_p31, fun _ h => absurd h List.not_mem_nil⟩⟩⟩⟩⟩⟩⟩⟩⟩⟩⟩⟩⟩⟩⟩⟩
theorem lw_p32 : lw_okq (⟨"LeatDaysModel", "driftOf", "(II)I"⟩, 22) := ⟨⟨by decide +kernel, by decide +kernel⟩, List.mem_of_getElem? (i := 583) (by decide +kernel), List.mem_of_getElem? (i := 739) (by decide +kernel), List.mem_of_getElem? (i := 740) (by decide +kernel)⟩
theorem lw_p33 : lw_okq (⟨"LeatDaysModel", "grindsNow", "(II)I"⟩, 22) := ⟨⟨by decide +kernel, by decide +kernel⟩, List.mem_of_getElem? (i := 583) (by decide +kernel), List.mem_of_getElem? (i := 746) (by decide +kernel), List.mem_of_getElem? (i := 747) (by decide +kernel)⟩
theorem lw_p34 : lw_okq (⟨"LeatDaysModel", "leavesNow", "(II)I"⟩, 22) := ⟨⟨by decide +kernel, by decide +kernel⟩, List.mem_of_getElem? (i := 583) (by decide +kernel), List.mem_of_getElem? (i := 759) (by decide +kernel), List.mem_of_getElem? (i := 760) (by decide +kernel)⟩
theorem lw_p35 : lw_okq (⟨"LeatDaysModel", "deed", "()I"⟩, 22) := ⟨⟨by decide +kernel, by decide +kernel⟩, List.mem_of_getElem? (i := 583) (by decide +kernel), List.mem_of_getElem? (i := 783) (by decide +kernel), List.mem_of_getElem? (i := 784) (by decide +kernel)⟩
theorem lw_p36 : lw_okq (⟨"LeatDaysModel", "copies", "(II)V"⟩, 22) := ⟨⟨by decide +kernel, by decide +kernel⟩, List.mem_of_getElem? (i := 583) (by decide +kernel), List.mem_of_getElem? (i := 787) (by decide +kernel), List.mem_of_getElem? (i := 788) (by decide +kernel)⟩
theorem lw_p37 : lw_okq (⟨"LeatDaysModel", "steps", "(IZ)I"⟩, 22) := ⟨⟨by decide +kernel, by decide +kernel⟩, List.mem_of_getElem? (i := 583) (by decide +kernel), List.mem_of_getElem? (i := 791) (by decide +kernel), List.mem_of_getElem? (i := 792) (by decide +kernel)⟩
theorem lw_p38 : lw_okq (⟨"LeatDaysModel", "tries", "()V"⟩, 22) := ⟨⟨by decide +kernel, by decide +kernel⟩, List.mem_of_getElem? (i := 583) (by decide +kernel), List.mem_of_getElem? (i := 825) (by decide +kernel), List.mem_of_getElem? (i := 826) (by decide +kernel)⟩
theorem lw_p39 : lw_okq (⟨"LeatDaysModel", "many", "(I)I"⟩, 22) := ⟨⟨by decide +kernel, by decide +kernel⟩, List.mem_of_getElem? (i := 583) (by decide +kernel), List.mem_of_getElem? (i := 829) (by decide +kernel), List.mem_of_getElem? (i := 830) (by decide +kernel)⟩
theorem lw_p40 : lw_okq (⟨"LeatDaysModel", "wrongRow", "(I)I"⟩, 22) := ⟨⟨by decide +kernel, by decide +kernel⟩, List.mem_of_getElem? (i := 583) (by decide +kernel), List.mem_of_getElem? (i := 867) (by decide +kernel), List.mem_of_getElem? (i := 868) (by decide +kernel)⟩
theorem lw_p41 : lw_okq (⟨"LeatDaysModel", "isGround", "(I)Z"⟩, 22) := ⟨⟨by decide +kernel, by decide +kernel⟩, List.mem_of_getElem? (i := 583) (by decide +kernel), List.mem_of_getElem? (i := 871) (by decide +kernel), List.mem_of_getElem? (i := 872) (by decide +kernel)⟩
theorem lw_p42 : lw_okq (⟨"LeatDaysModel", "greatest", "(II)I"⟩, 22) := ⟨⟨by decide +kernel, by decide +kernel⟩, List.mem_of_getElem? (i := 583) (by decide +kernel), List.mem_of_getElem? (i := 887) (by decide +kernel), List.mem_of_getElem? (i := 888) (by decide +kernel)⟩
theorem lw_p43 : lw_okq (⟨"LeatDaysModel", "played", "(II)I"⟩, 22) := ⟨⟨by decide +kernel, by decide +kernel⟩, List.mem_of_getElem? (i := 583) (by decide +kernel), List.mem_of_getElem? (i := 896) (by decide +kernel), List.mem_of_getElem? (i := 897) (by decide +kernel)⟩
theorem lw_p44 : lw_okq (⟨"LeatDaysModel", "weighs", "(II)J"⟩, 22) := ⟨⟨by decide +kernel, by decide +kernel⟩, List.mem_of_getElem? (i := 583) (by decide +kernel), List.mem_of_getElem? (i := 905) (by decide +kernel), List.mem_of_getElem? (i := 906) (by decide +kernel)⟩
theorem lw_p45 : lw_okq (⟨"LeatDaysModel", "tells", "(JJ)V"⟩, 22) := ⟨⟨by decide +kernel, by decide +kernel⟩, List.mem_of_getElem? (i := 583) (by decide +kernel), List.mem_of_getElem? (i := 910) (by decide +kernel), List.mem_of_getElem? (i := 911) (by decide +kernel)⟩
theorem lw_p46 : lw_okq (⟨"LeatDaysModel", "manyOf", "(I)I"⟩, 22) := ⟨⟨by decide +kernel, by decide +kernel⟩, List.mem_of_getElem? (i := 583) (by decide +kernel), List.mem_of_getElem? (i := 941) (by decide +kernel), List.mem_of_getElem? (i := 942) (by decide +kernel)⟩
def lw_privs_3 : List (MethodName × Nat) := [(⟨"LeatDaysModel", "driftOf", "(II)I"⟩, 22), (⟨"LeatDaysModel", "grindsNow", "(II)I"⟩, 22), (⟨"LeatDaysModel", "leavesNow", "(II)I"⟩, 22), (⟨"LeatDaysModel", "deed", "()I"⟩, 22), (⟨"LeatDaysModel", "copies", "(II)V"⟩, 22), (⟨"LeatDaysModel", "steps", "(IZ)I"⟩, 22), (⟨"LeatDaysModel", "tries", "()V"⟩, 22), (⟨"LeatDaysModel", "many", "(I)I"⟩, 22), (⟨"LeatDaysModel", "wrongRow", "(I)I"⟩, 22), (⟨"LeatDaysModel", "isGround", "(I)Z"⟩, 22), (⟨"LeatDaysModel", "greatest", "(II)I"⟩, 22), (⟨"LeatDaysModel", "played", "(II)I"⟩, 22), (⟨"LeatDaysModel", "weighs", "(II)J"⟩, 22), (⟨"LeatDaysModel", "tells", "(JJ)V"⟩, 22), (⟨"LeatDaysModel", "manyOf", "(I)I"⟩, 22)]
theorem lw_r3 : ∀ q ∈ lw_privs_3, lw_okq q := List.forall_mem_cons.mpr ⟨lw_p32, List.forall_mem_cons.mpr ⟨lw_p33, List.forall_mem_cons.mpr ⟨lw_p34, List.forall_mem_cons.mpr ⟨lw_p35, List.forall_mem_cons.mpr ⟨lw_p36, List.forall_mem_cons.mpr ⟨lw_p37, List.forall_mem_cons.mpr ⟨lw_p38, List.forall_mem_cons.mpr ⟨lw_p39, List.forall_mem_cons.mpr ⟨lw_p40, List.forall_mem_cons.mpr ⟨lw_p41, List.forall_mem_cons.mpr ⟨lw_p42, List.forall_mem_cons.mpr ⟨lw_p43, List.forall_mem_cons.mpr ⟨lw_p44, List.forall_mem_cons.mpr ⟨lw_p45, List.forall_mem_cons.mpr ⟨lw_p46, fun _ h => absurd h List.not_mem_nil⟩⟩⟩⟩⟩⟩⟩⟩⟩⟩⟩⟩⟩⟩⟩
def lw_privs : List (MethodName × Nat) := lw_privs_1 ++ (lw_privs_2 ++ (lw_privs_3))
def lw_tbl : List Cond := k2_sels lw_privs ++ tables_1
theorem lw_privs_ok : ∀ q ∈ lw_privs, lw_okq q := by
  show ∀ q ∈ lw_privs_1 ++ (lw_privs_2 ++ (lw_privs_3)), lw_okq q
  exact List.forall_mem_append.mpr ⟨lw_r1, List.forall_mem_append.mpr ⟨lw_r2, lw_r3⟩⟩
end
section
def RX0 : String := "LeatDays$Days"
def TX0 : u_T := fun k => match k with
  | 0 => ("LeatDays$Days", "kinds", "[I", true)
  | 1 => ("LeatDays$Days", "flows", "[I", true)
  | 2 => ("LeatDays$Days", "drifts", "[I", true)
  | 3 => ("LeatDays$Days", "size", "I", false)
  | _ => ("LeatDays$Days", "fished", "I", false)
def tyX0 : Nat → FieldType := fun k => match k with
  | 0 => .array .int
  | 1 => .array .int
  | 2 => .array .int
  | 3 => .int
  | _ => .int
abbrev wsX00 : List Cond := u_ws RX0 TX0 5
theorem nmX0 : ∀ a, a < 5 → ∀ b, b < 5 → a ≠ b → (TX0 a).2.1 ≠ (TX0 b).2.1 := by decide +kernel
theorem tyX0_ok : ∀ k, k < 5 → parseFieldDescriptor (TX0 k).2.2.1 = some (tyX0 k) := by decide +kernel
abbrev cX0_init : ByteArray := prog_2_method_1_code
def yX0_init : MethodName := ⟨RX0, "<init>", "()V"⟩
abbrev cX0_read : ByteArray := prog_2_method_2_code
def yX0_read : MethodName := ⟨RX0, "read", "(LLeatDays$Strip;)V"⟩
abbrev cX0_copyOf : ByteArray := prog_2_method_3_code
def yX0_copyOf : MethodName := ⟨RX0, "copyOf", "(LLeatDays$Days;)V"⟩
abbrev cX0_wasFished : ByteArray := prog_2_method_4_code
def yX0_wasFished : MethodName := ⟨RX0, "wasFished", "(I)Z"⟩
abbrev cX0_setFished : ByteArray := prog_2_method_5_code
def yX0_setFished : MethodName := ⟨RX0, "setFished", "(I)V"⟩
abbrev cX0_drift : ByteArray := prog_2_method_6_code
def yX0_drift : MethodName := ⟨RX0, "drift", "(I)I"⟩
abbrev cX0_flour : ByteArray := prog_2_method_7_code
def yX0_flour : MethodName := ⟨RX0, "flour", "(III)I"⟩
abbrev cX0_litter : ByteArray := prog_2_method_8_code
def yX0_litter : MethodName := ⟨RX0, "litter", "(I)I"⟩
abbrev cX0_howManyOf : ByteArray := prog_2_method_9_code
def yX0_howManyOf : MethodName := ⟨RX0, "howManyOf", "(I)I"⟩
def RX1 : String := "LeatDays$Deeds"
def TX1 : u_T := fun k => match k with
  | 0 => ("LeatDays$Deeds", "whats", "[I", true)
  | 1 => ("LeatDays$Deeds", "bys", "[I", true)
  | _ => ("LeatDays$Deeds", "count", "I", false)
def tyX1 : Nat → FieldType := fun k => match k with
  | 0 => .array .int
  | 1 => .array .int
  | _ => .int
abbrev wsX10 : List Cond := u_ws RX1 TX1 3
theorem nmX1 : ∀ a, a < 3 → ∀ b, b < 3 → a ≠ b → (TX1 a).2.1 ≠ (TX1 b).2.1 := by decide +kernel
theorem tyX1_ok : ∀ k, k < 3 → parseFieldDescriptor (TX1 k).2.2.1 = some (tyX1 k) := by decide +kernel
abbrev cX1_init : ByteArray := prog_3_method_1_code
def yX1_init : MethodName := ⟨RX1, "<init>", "()V"⟩
abbrev cX1_isFull : ByteArray := prog_3_method_2_code
def yX1_isFull : MethodName := ⟨RX1, "isFull", "()Z"⟩
abbrev cX1_add : ByteArray := prog_3_method_3_code
def yX1_add : MethodName := ⟨RX1, "add", "(II)V"⟩
abbrev cX1_copyOf : ByteArray := prog_3_method_4_code
def yX1_copyOf : MethodName := ⟨RX1, "copyOf", "(LLeatDays$Deeds;)V"⟩
def RX2 : String := "LeatDays$Strip"
def TX2 : u_T := fun k => match k with
  | 0 => ("LeatDays$Strip", "places", "[I", true)
  | _ => ("LeatDays$Strip", "size", "I", false)
def tyX2 : Nat → FieldType := fun k => match k with
  | 0 => .array .int
  | _ => .int
abbrev wsX20 : List Cond := u_ws RX2 TX2 2
theorem nmX2 : ∀ a, a < 2 → ∀ b, b < 2 → a ≠ b → (TX2 a).2.1 ≠ (TX2 b).2.1 := by decide +kernel
theorem tyX2_ok : ∀ k, k < 2 → parseFieldDescriptor (TX2 k).2.2.1 = some (tyX2 k) := by decide +kernel
abbrev cX2_init : ByteArray := prog_4_method_1_code
def yX2_init : MethodName := ⟨RX2, "<init>", "()V"⟩
abbrev cX2_isThere : ByteArray := prog_4_method_2_code
def yX2_isThere : MethodName := ⟨RX2, "isThere", "()Z"⟩
abbrev cX2_make : ByteArray := prog_4_method_3_code
def yX2_make : MethodName := ⟨RX2, "make", "(II)V"⟩
abbrev cX2_hasFrom : ByteArray := prog_4_method_4_code
def yX2_hasFrom : MethodName := ⟨RX2, "hasFrom", "(II)Z"⟩
abbrev cX2_sum : ByteArray := prog_4_method_5_code
def yX2_sum : MethodName := ⟨RX2, "sum", "()J"⟩
abbrev cX2_mixedInto : ByteArray := prog_4_method_6_code
def yX2_mixedInto : MethodName := ⟨RX2, "mixedInto", "(J)J"⟩
def RX3 : String := "LeatDays$Wheel"
def TX3 : u_T := fun k => match k with
  | 0 => ("LeatDays$Wheel", "at", "I", false)
  | 1 => ("LeatDays$Wheel", "hatch", "I", false)
  | 2 => ("LeatDays$Wheel", "clog", "I", false)
  | 3 => ("LeatDays$Wheel", "back", "Z", false)
  | _ => ("LeatDays$Wheel", "ground", "I", false)
def tyX3 : Nat → FieldType := fun k => match k with
  | 0 => .int
  | 1 => .int
  | 2 => .int
  | 3 => .boolean
  | _ => .int
abbrev wsX30 : List Cond := u_ws RX3 TX3 5
theorem nmX3 : ∀ a, a < 5 → ∀ b, b < 5 → a ≠ b → (TX3 a).2.1 ≠ (TX3 b).2.1 := by decide +kernel
theorem tyX3_ok : ∀ k, k < 5 → parseFieldDescriptor (TX3 k).2.2.1 = some (tyX3 k) := by decide +kernel
abbrev cX3_init : ByteArray := prog_5_method_1_code
def yX3_init : MethodName := ⟨RX3, "<init>", "()V"⟩
abbrev cX3_start : ByteArray := prog_5_method_2_code
def yX3_start : MethodName := ⟨RX3, "start", "()V"⟩
abbrev cX3_copyOf : ByteArray := prog_5_method_3_code
def yX3_copyOf : MethodName := ⟨RX3, "copyOf", "(LLeatDays$Wheel;)V"⟩
abbrev cX3_goRound : ByteArray := prog_5_method_4_code
def yX3_goRound : MethodName := ⟨RX3, "goRound", "(LLeatDays$Days;)I"⟩
abbrev cX3_turn : ByteArray := prog_5_method_5_code
def yX3_turn : MethodName := ⟨RX3, "turn", "()V"⟩
abbrev cX3_pass : ByteArray := prog_5_method_6_code
def yX3_pass : MethodName := ⟨RX3, "pass", "(I)V"⟩
def RX4 : String := "LeatDays"
def TX4 : u_T := fun k => match k with
  | 0 => ("LeatDays", "rows", "[LLeatDays$Strip;", true)
  | 1 => ("LeatDays", "texts", "[LLeatDays$Strip;", true)
  | 2 => ("LeatDays", "days", "LLeatDays$Days;", true)
  | 3 => ("LeatDays", "wheel", "LLeatDays$Wheel;", true)
  | 4 => ("LeatDays", "deeds", "LLeatDays$Deeds;", true)
  | 5 => ("LeatDays", "kept", "[LLeatDays$Deeds;", true)
  | 6 => ("LeatDays", "guess", "LLeatDays$Days;", true)
  | 7 => ("LeatDays", "trial", "LLeatDays$Wheel;", true)
  | 8 => ("LeatDays", "planned", "[LLeatDays$Wheel;", true)
  | 9 => ("LeatDays", "asked", "I", false)
  | 10 => ("LeatDays", "upper", "J", false)
  | 11 => ("LeatDays", "lower", "J", false)
  | 12 => ("LeatDays", "finding", "I", false)
  | _ => ("LeatDays", "findings", "[I", true)
def tyX4 : Nat → FieldType := fun k => match k with
  | 0 => .array (.object "LeatDays$Strip")
  | 1 => .array (.object "LeatDays$Strip")
  | 2 => .object "LeatDays$Days"
  | 3 => .object "LeatDays$Wheel"
  | 4 => .object "LeatDays$Deeds"
  | 5 => .array (.object "LeatDays$Deeds")
  | 6 => .object "LeatDays$Days"
  | 7 => .object "LeatDays$Wheel"
  | 8 => .array (.object "LeatDays$Wheel")
  | 9 => .int
  | 10 => .long
  | 11 => .long
  | 12 => .int
  | _ => .array .int
abbrev wsX40 : List Cond := u_ws RX4 TX4 14
theorem nmX4 : ∀ a, a < 14 → ∀ b, b < 14 → a ≠ b → (TX4 a).2.1 ≠ (TX4 b).2.1 := by decide +kernel
theorem tyX4_ok : ∀ k, k < 14 → parseFieldDescriptor (TX4 k).2.2.1 = some (tyX4 k) := by decide +kernel
abbrev cX4_init : ByteArray := prog_1_method_1_code
def yX4_init : MethodName := ⟨RX4, "<init>", "()V"⟩
abbrev cX4_row : ByteArray := prog_1_method_2_code
def yX4_row : MethodName := ⟨RX4, "row", "(II)I"⟩
abbrev cX4_lay : ByteArray := prog_1_method_3_code
def yX4_lay : MethodName := ⟨RX4, "lay", "(III)I"⟩
abbrev cX4_at : ByteArray := prog_1_method_4_code
def yX4_at : MethodName := ⟨RX4, "at", "(II)I"⟩
abbrev cX4_tear : ByteArray := prog_1_method_5_code
def yX4_tear : MethodName := ⟨RX4, "tear", "(I)I"⟩
abbrev cX4_copy : ByteArray := prog_1_method_6_code
def yX4_copy : MethodName := ⟨RX4, "copy", "(IIIII)I"⟩
abbrev cX4_mean : ByteArray := prog_1_method_7_code
def yX4_mean : MethodName := ⟨RX4, "mean", "(I)I"⟩
abbrev cX4_text : ByteArray := prog_1_method_8_code
def yX4_text : MethodName := ⟨RX4, "text", "(II)I"⟩
abbrev cX4_put : ByteArray := prog_1_method_9_code
def yX4_put : MethodName := ⟨RX4, "put", "(III)I"⟩
abbrev cX4_fault : ByteArray := prog_1_method_10_code
def yX4_fault : MethodName := ⟨RX4, "fault", "(I)I"⟩
abbrev cX4_leat : ByteArray := prog_1_method_11_code
def yX4_leat : MethodName := ⟨RX4, "leat", "(I)I"⟩
abbrev cX4_day : ByteArray := prog_1_method_12_code
def yX4_day : MethodName := ⟨RX4, "day", "(II)I"⟩
abbrev cX4_mark : ByteArray := prog_1_method_13_code
def yX4_mark : MethodName := ⟨RX4, "mark", "(II)I"⟩
abbrev cX4_grinds : ByteArray := prog_1_method_14_code
def yX4_grinds : MethodName := ⟨RX4, "grinds", "(III)I"⟩
abbrev cX4_step : ByteArray := prog_1_method_15_code
def yX4_step : MethodName := ⟨RX4, "step", "()I"⟩
abbrev cX4_hatch : ByteArray := prog_1_method_16_code
def yX4_hatch : MethodName := ⟨RX4, "hatch", "(I)I"⟩
abbrev cX4_rake : ByteArray := prog_1_method_17_code
def yX4_rake : MethodName := ⟨RX4, "rake", "()I"⟩
abbrev cX4_fish : ByteArray := prog_1_method_18_code
def yX4_fish : MethodName := ⟨RX4, "fish", "(I)I"⟩
abbrev cX4_undo : ByteArray := prog_1_method_19_code
def yX4_undo : MethodName := ⟨RX4, "undo", "(I)I"⟩
abbrev cX4_keep : ByteArray := prog_1_method_20_code
def yX4_keep : MethodName := ⟨RX4, "keep", "(I)I"⟩
abbrev cX4_on : ByteArray := prog_1_method_21_code
def yX4_on : MethodName := ⟨RX4, "on", "(I)I"⟩
abbrev cX4_mill : ByteArray := prog_1_method_22_code
def yX4_mill : MethodName := ⟨RX4, "mill", "(I)I"⟩
abbrev cX4_turns : ByteArray := prog_1_method_23_code
def yX4_turns : MethodName := ⟨RX4, "turns", "()I"⟩
abbrev cX4_book : ByteArray := prog_1_method_24_code
def yX4_book : MethodName := ⟨RX4, "book", "(II)I"⟩
abbrev cX4_best : ByteArray := prog_1_method_25_code
def yX4_best : MethodName := ⟨RX4, "best", "(I)I"⟩
abbrev cX4_plan : ByteArray := prog_1_method_26_code
def yX4_plan : MethodName := ⟨RX4, "plan", "(II)I"⟩
abbrev cX4_rakes : ByteArray := prog_1_method_27_code
def yX4_rakes : MethodName := ⟨RX4, "rakes", "(II)I"⟩
abbrev cX4_fishes : ByteArray := prog_1_method_28_code
def yX4_fishes : MethodName := ⟨RX4, "fishes", "(I)I"⟩
abbrev cX4_where : ByteArray := prog_1_method_29_code
def yX4_where : MethodName := ⟨RX4, "where", "(I)I"⟩
abbrev cX4_flows : ByteArray := prog_1_method_30_code
def yX4_flows : MethodName := ⟨RX4, "flows", "(II)I"⟩
abbrev cX4_kinds : ByteArray := prog_1_method_31_code
def yX4_kinds : MethodName := ⟨RX4, "kinds", "(II)I"⟩
abbrev cX4_look : ByteArray := prog_1_method_32_code
def yX4_look : MethodName := ⟨RX4, "look", "(I)I"⟩
abbrev cX4_duel : ByteArray := prog_1_method_33_code
def yX4_duel : MethodName := ⟨RX4, "duel", "(I)I"⟩
abbrev cX4_odds : ByteArray := prog_1_method_34_code
def yX4_odds : MethodName := ⟨RX4, "odds", "(II)I"⟩
abbrev cX4_mid : ByteArray := prog_1_method_35_code
def yX4_mid : MethodName := ⟨RX4, "mid", "(I)I"⟩
abbrev cX4_lots : ByteArray := prog_1_method_36_code
def yX4_lots : MethodName := ⟨RX4, "lots", "(II)I"⟩
abbrev cX4_asked : ByteArray := prog_1_method_37_code
def yX4_asked : MethodName := ⟨RX4, "asked", "()I"⟩
abbrev cX4_upper : ByteArray := prog_1_method_38_code
def yX4_upper : MethodName := ⟨RX4, "upper", "()J"⟩
abbrev cX4_lower : ByteArray := prog_1_method_39_code
def yX4_lower : MethodName := ⟨RX4, "lower", "()J"⟩
abbrev cX4_count : ByteArray := prog_1_method_40_code
def yX4_count : MethodName := ⟨RX4, "count", "(I)I"⟩
abbrev cX4_finding : ByteArray := prog_1_method_41_code
def yX4_finding : MethodName := ⟨RX4, "finding", "()I"⟩
abbrev cX4_findings : ByteArray := prog_1_method_42_code
def yX4_findings : MethodName := ⟨RX4, "findings", "(I)I"⟩
abbrev cX4_digest : ByteArray := prog_1_method_43_code
def yX4_digest : MethodName := ⟨RX4, "digest", "()J"⟩
abbrev cX4_within : ByteArray := prog_1_method_44_code
def yX4_within : MethodName := ⟨RX4, "within", "(III)Z"⟩
abbrev cX4_isRow : ByteArray := prog_1_method_45_code
def yX4_isRow : MethodName := ⟨RX4, "isRow", "(I)Z"⟩
abbrev cX4_isText : ByteArray := prog_1_method_46_code
def yX4_isText : MethodName := ⟨RX4, "isText", "(I)Z"⟩
abbrev cX4_isPlace : ByteArray := prog_1_method_47_code
def yX4_isPlace : MethodName := ⟨RX4, "isPlace", "(I)Z"⟩
abbrev cX4_isDay : ByteArray := prog_1_method_48_code
def yX4_isDay : MethodName := ⟨RX4, "isDay", "(I)Z"⟩
abbrev cX4_noDays : ByteArray := prog_1_method_49_code
def yX4_noDays : MethodName := ⟨RX4, "noDays", "()Z"⟩
abbrev cX4_found : ByteArray := prog_1_method_50_code
def yX4_found : MethodName := ⟨RX4, "found", "(I)I"⟩
abbrev cX4_missingPlace : ByteArray := prog_1_method_51_code
def yX4_missingPlace : MethodName := ⟨RX4, "missingPlace", "(LLeatDays$Strip;I)I"⟩
abbrev cX4_wrongNumbers : ByteArray := prog_1_method_52_code
def yX4_wrongNumbers : MethodName := ⟨RX4, "wrongNumbers", "(LLeatDays$Strip;)I"⟩
abbrev cX4_faultOf : ByteArray := prog_1_method_53_code
def yX4_faultOf : MethodName := ⟨RX4, "faultOf", "(LLeatDays$Strip;)I"⟩
abbrev cX4_faultOfItem : ByteArray := prog_1_method_54_code
def yX4_faultOfItem : MethodName := ⟨RX4, "faultOfItem", "(LLeatDays$Strip;I)I"⟩
abbrev cX4_kindByLetter : ByteArray := prog_1_method_55_code
def yX4_kindByLetter : MethodName := ⟨RX4, "kindByLetter", "(I)I"⟩
abbrev cX4_isOfKind : ByteArray := prog_1_method_56_code
def yX4_isOfKind : MethodName := ⟨RX4, "isOfKind", "(II)Z"⟩
abbrev cX4_markOf : ByteArray := prog_1_method_57_code
def yX4_markOf : MethodName := ⟨RX4, "markOf", "(II)I"⟩
abbrev cX4_grindsMoreThan : ByteArray := prog_1_method_58_code
def yX4_grindsMoreThan : MethodName := ⟨RX4, "grindsMoreThan", "(II)I"⟩
abbrev cX4_leavesMoreThan : ByteArray := prog_1_method_59_code
def yX4_leavesMoreThan : MethodName := ⟨RX4, "leavesMoreThan", "(II)I"⟩
abbrev cX4_toldOfDay : ByteArray := prog_1_method_60_code
def yX4_toldOfDay : MethodName := ⟨RX4, "toldOfDay", "(II)I"⟩
abbrev cX4_doDeed : ByteArray := prog_1_method_61_code
def yX4_doDeed : MethodName := ⟨RX4, "doDeed", "(II)I"⟩
abbrev cX4_apply : ByteArray := prog_1_method_62_code
def yX4_apply : MethodName := ⟨RX4, "apply", "(II)I"⟩
abbrev cX4_doAgain : ByteArray := prog_1_method_63_code
def yX4_doAgain : MethodName := ⟨RX4, "doAgain", "()V"⟩
abbrev cX4_doByLot : ByteArray := prog_1_method_64_code
def yX4_doByLot : MethodName := ⟨RX4, "doByLot", "(I)V"⟩
abbrev cX4_startTrial : ByteArray := prog_1_method_65_code
def yX4_startTrial : MethodName := ⟨RX4, "startTrial", "()V"⟩
abbrev cX4_groundIn : ByteArray := prog_1_method_66_code
def yX4_groundIn : MethodName := ⟨RX4, "groundIn", "(ILLeatDays$Days;)I"⟩
abbrev cX4_groundRaking : ByteArray := prog_1_method_67_code
def yX4_groundRaking : MethodName := ⟨RX4, "groundRaking", "(II)I"⟩
abbrev cX4_groundWithDry : ByteArray := prog_1_method_68_code
def yX4_groundWithDry : MethodName := ⟨RX4, "groundWithDry", "(I)I"⟩
abbrev cX4_grindsSo : ByteArray := prog_1_method_69_code
def yX4_grindsSo : MethodName := ⟨RX4, "grindsSo", "(LLeatDays$Strip;LLeatDays$Days;I)Z"⟩
abbrev cX4_bestSetting : ByteArray := prog_1_method_70_code
def yX4_bestSetting : MethodName := ⟨RX4, "bestSetting", "(I)I"⟩
abbrev cX4_mostSetting : ByteArray := prog_1_method_71_code
def yX4_mostSetting : MethodName := ⟨RX4, "mostSetting", "(LLeatDays$Wheel;II)I"⟩
abbrev cX4_greatestPart : ByteArray := prog_1_method_72_code
def yX4_greatestPart : MethodName := ⟨RX4, "greatestPart", "(II)I"⟩
abbrev cX4_kindsGrinding : ByteArray := prog_1_method_73_code
def yX4_kindsGrinding : MethodName := ⟨RX4, "kindsGrinding", "(III)I"⟩
abbrev cX4_millersTurn : ByteArray := prog_1_method_74_code
def yX4_millersTurn : MethodName := ⟨RX4, "millersTurn", "(III)I"⟩
abbrev cX4_throwersTurn : ByteArray := prog_1_method_75_code
def yX4_throwersTurn : MethodName := ⟨RX4, "throwersTurn", "(III)I"⟩
abbrev cX4_groundAfterDuel : ByteArray := prog_1_method_76_code
def yX4_groundAfterDuel : MethodName := ⟨RX4, "groundAfterDuel", "(II)I"⟩
abbrev cX4_weightOf : ByteArray := prog_1_method_77_code
def yX4_weightOf : MethodName := ⟨RX4, "weightOf", "(II)J"⟩
abbrev cX4_power : ByteArray := prog_1_method_78_code
def yX4_power : MethodName := ⟨RX4, "power", "(II)J"⟩
abbrev cX4_tell : ByteArray := prog_1_method_79_code
def yX4_tell : MethodName := ⟨RX4, "tell", "(JJ)V"⟩
abbrev cX4_commonDivisor : ByteArray := prog_1_method_80_code
def yX4_commonDivisor : MethodName := ⟨RX4, "commonDivisor", "(JJ)J"⟩
abbrev cX4_stripsThere : ByteArray := prog_1_method_81_code
def yX4_stripsThere : MethodName := ⟨RX4, "stripsThere", "([LLeatDays$Strip;)I"⟩
abbrev cX4_keptThere : ByteArray := prog_1_method_82_code
def yX4_keptThere : MethodName := ⟨RX4, "keptThere", "()I"⟩
def RX5 : String := "LeatDaysModel"
def TX5 : u_T := fun k => match k with
  | 0 => ("LeatDaysModel", "sizes", "[I", true)
  | 1 => ("LeatDaysModel", "rows", "[I", true)
  | 2 => ("LeatDaysModel", "lengths", "[I", true)
  | 3 => ("LeatDaysModel", "bytes", "[B", true)
  | 4 => ("LeatDaysModel", "days", "I", false)
  | 5 => ("LeatDaysModel", "sort", "[I", true)
  | 6 => ("LeatDaysModel", "flow", "[I", true)
  | 7 => ("LeatDaysModel", "drift", "[I", true)
  | 8 => ("LeatDaysModel", "newSort", "[I", true)
  | 9 => ("LeatDaysModel", "newFlow", "[I", true)
  | 10 => ("LeatDaysModel", "newDrift", "[I", true)
  | 11 => ("LeatDaysModel", "newDays", "I", false)
  | 12 => ("LeatDaysModel", "slot", "[I", true)
  | 13 => ("LeatDaysModel", "deeds", "I", false)
  | 14 => ("LeatDaysModel", "kept", "[I", true)
  | 15 => ("LeatDaysModel", "told", "I", false)
  | 16 => ("LeatDaysModel", "upper", "J", false)
  | 17 => ("LeatDaysModel", "lower", "J", false)
  | 18 => ("LeatDaysModel", "latest", "I", false)
  | 19 => ("LeatDaysModel", "counts", "[I", true)
  | 20 => ("LeatDaysModel", "turned", "I", false)
  | _ => ("LeatDaysModel", "worths", "[I", true)
def tyX5 : Nat → FieldType := fun k => match k with
  | 0 => .array .int
  | 1 => .array .int
  | 2 => .array .int
  | 3 => .array .byte
  | 4 => .int
  | 5 => .array .int
  | 6 => .array .int
  | 7 => .array .int
  | 8 => .array .int
  | 9 => .array .int
  | 10 => .array .int
  | 11 => .int
  | 12 => .array .int
  | 13 => .int
  | 14 => .array .int
  | 15 => .int
  | 16 => .long
  | 17 => .long
  | 18 => .int
  | 19 => .array .int
  | 20 => .int
  | _ => .array .int
abbrev wsX50 : List Cond := u_ws RX5 TX5 22
theorem nmX5 : ∀ a, a < 22 → ∀ b, b < 22 → a ≠ b → (TX5 a).2.1 ≠ (TX5 b).2.1 := by decide +kernel
theorem tyX5_ok : ∀ k, k < 22 → parseFieldDescriptor (TX5 k).2.2.1 = some (tyX5 k) := by decide +kernel
abbrev cX5_init : ByteArray := prog_7_method_1_code
def yX5_init : MethodName := ⟨RX5, "<init>", "()V"⟩
abbrev cX5_in : ByteArray := prog_7_method_2_code
def yX5_in : MethodName := ⟨RX5, "in", "(JJJ)Z"⟩
abbrev cX5_has : ByteArray := prog_7_method_3_code
def yX5_has : MethodName := ⟨RX5, "has", "(II)Z"⟩
abbrev cX5_bits : ByteArray := prog_7_method_4_code
def yX5_bits : MethodName := ⟨RX5, "bits", "(I)I"⟩
abbrev cX5_smaller : ByteArray := prog_7_method_5_code
def yX5_smaller : MethodName := ⟨RX5, "smaller", "(II)I"⟩
abbrev cX5_larger : ByteArray := prog_7_method_6_code
def yX5_larger : MethodName := ⟨RX5, "larger", "(II)I"⟩
abbrev cX5_finds : ByteArray := prog_7_method_7_code
def yX5_finds : MethodName := ⟨RX5, "finds", "(I)I"⟩
abbrev cX5_row : ByteArray := prog_7_method_8_code
def yX5_row : MethodName := ⟨RX5, "row", "(II)I"⟩
abbrev cX5_begins : ByteArray := prog_7_method_9_code
def yX5_begins : MethodName := ⟨RX5, "begins", "(II)V"⟩
abbrev cX5_lay : ByteArray := prog_7_method_10_code
def yX5_lay : MethodName := ⟨RX5, "lay", "(III)I"⟩
abbrev cX5_at : ByteArray := prog_7_method_11_code
def yX5_at : MethodName := ⟨RX5, "at", "(II)I"⟩
abbrev cX5_tear : ByteArray := prog_7_method_12_code
def yX5_tear : MethodName := ⟨RX5, "tear", "(I)I"⟩
abbrev cX5_copy : ByteArray := prog_7_method_13_code
def yX5_copy : MethodName := ⟨RX5, "copy", "(IIIII)I"⟩
abbrev cX5_mean : ByteArray := prog_7_method_14_code
def yX5_mean : MethodName := ⟨RX5, "mean", "(I)I"⟩
abbrev cX5_text : ByteArray := prog_7_method_15_code
def yX5_text : MethodName := ⟨RX5, "text", "(II)I"⟩
abbrev cX5_put : ByteArray := prog_7_method_16_code
def yX5_put : MethodName := ⟨RX5, "put", "(III)I"⟩
abbrev cX5_byteAt : ByteArray := prog_7_method_17_code
def yX5_byteAt : MethodName := ⟨RX5, "byteAt", "(II)I"⟩
abbrev cX5_kindOf : ByteArray := prog_7_method_18_code
def yX5_kindOf : MethodName := ⟨RX5, "kindOf", "(I)I"⟩
abbrev cX5_reads : ByteArray := prog_7_method_19_code
def yX5_reads : MethodName := ⟨RX5, "reads", "(I)I"⟩
abbrev cX5_fault : ByteArray := prog_7_method_20_code
def yX5_fault : MethodName := ⟨RX5, "fault", "(I)I"⟩
abbrev cX5_leat : ByteArray := prog_7_method_21_code
def yX5_leat : MethodName := ⟨RX5, "leat", "(I)I"⟩
abbrev cX5_now : ByteArray := prog_7_method_22_code
def yX5_now : MethodName := ⟨RX5, "now", "()I"⟩
abbrev cX5_grindsAs : ByteArray := prog_7_method_23_code
def yX5_grindsAs : MethodName := ⟨RX5, "grindsAs", "(IIIII)I"⟩
abbrev cX5_leavesAs : ByteArray := prog_7_method_24_code
def yX5_leavesAs : MethodName := ⟨RX5, "leavesAs", "(II)I"⟩
abbrev cX5_driftOf : ByteArray := prog_7_method_25_code
def yX5_driftOf : MethodName := ⟨RX5, "driftOf", "(II)I"⟩
abbrev cX5_grindsNow : ByteArray := prog_7_method_26_code
def yX5_grindsNow : MethodName := ⟨RX5, "grindsNow", "(II)I"⟩
abbrev cX5_leavesNow : ByteArray := prog_7_method_27_code
def yX5_leavesNow : MethodName := ⟨RX5, "leavesNow", "(II)I"⟩
abbrev cX5_isDay : ByteArray := prog_7_method_28_code
def yX5_isDay : MethodName := ⟨RX5, "isDay", "(I)Z"⟩
abbrev cX5_dayTold : ByteArray := prog_7_method_29_code
def yX5_dayTold : MethodName := ⟨RX5, "dayTold", "(II)I"⟩
abbrev cX5_day : ByteArray := prog_7_method_30_code
def yX5_day : MethodName := ⟨RX5, "day", "(II)I"⟩
abbrev cX5_isOf : ByteArray := prog_7_method_31_code
def yX5_isOf : MethodName := ⟨RX5, "isOf", "(II)Z"⟩
abbrev cX5_mark : ByteArray := prog_7_method_32_code
def yX5_mark : MethodName := ⟨RX5, "mark", "(II)I"⟩
abbrev cX5_grinds : ByteArray := prog_7_method_33_code
def yX5_grinds : MethodName := ⟨RX5, "grinds", "(III)I"⟩
abbrev cX5_steps : ByteArray := prog_7_method_34_code
def yX5_steps : MethodName := ⟨RX5, "steps", "(IZ)I"⟩
abbrev cX5_copies : ByteArray := prog_7_method_35_code
def yX5_copies : MethodName := ⟨RX5, "copies", "(II)V"⟩
abbrev cX5_deed : ByteArray := prog_7_method_36_code
def yX5_deed : MethodName := ⟨RX5, "deed", "()I"⟩
abbrev cX5_step : ByteArray := prog_7_method_37_code
def yX5_step : MethodName := ⟨RX5, "step", "()I"⟩
abbrev cX5_hatch : ByteArray := prog_7_method_38_code
def yX5_hatch : MethodName := ⟨RX5, "hatch", "(I)I"⟩
abbrev cX5_rake : ByteArray := prog_7_method_39_code
def yX5_rake : MethodName := ⟨RX5, "rake", "()I"⟩
abbrev cX5_fish : ByteArray := prog_7_method_40_code
def yX5_fish : MethodName := ⟨RX5, "fish", "(I)I"⟩
abbrev cX5_undo : ByteArray := prog_7_method_41_code
def yX5_undo : MethodName := ⟨RX5, "undo", "(I)I"⟩
abbrev cX5_keep : ByteArray := prog_7_method_42_code
def yX5_keep : MethodName := ⟨RX5, "keep", "(I)I"⟩
abbrev cX5_on : ByteArray := prog_7_method_43_code
def yX5_on : MethodName := ⟨RX5, "on", "(I)I"⟩
abbrev cX5_tries : ByteArray := prog_7_method_44_code
def yX5_tries : MethodName := ⟨RX5, "tries", "()V"⟩
abbrev cX5_many : ByteArray := prog_7_method_45_code
def yX5_many : MethodName := ⟨RX5, "many", "(I)I"⟩
abbrev cX5_mill : ByteArray := prog_7_method_46_code
def yX5_mill : MethodName := ⟨RX5, "mill", "(I)I"⟩
abbrev cX5_turns : ByteArray := prog_7_method_47_code
def yX5_turns : MethodName := ⟨RX5, "turns", "()I"⟩
abbrev cX5_book : ByteArray := prog_7_method_48_code
def yX5_book : MethodName := ⟨RX5, "book", "(II)I"⟩
abbrev cX5_best : ByteArray := prog_7_method_49_code
def yX5_best : MethodName := ⟨RX5, "best", "(I)I"⟩
abbrev cX5_plan : ByteArray := prog_7_method_50_code
def yX5_plan : MethodName := ⟨RX5, "plan", "(II)I"⟩
abbrev cX5_rakes : ByteArray := prog_7_method_51_code
def yX5_rakes : MethodName := ⟨RX5, "rakes", "(II)I"⟩
abbrev cX5_fishes : ByteArray := prog_7_method_52_code
def yX5_fishes : MethodName := ⟨RX5, "fishes", "(I)I"⟩
abbrev cX5_wrongRow : ByteArray := prog_7_method_53_code
def yX5_wrongRow : MethodName := ⟨RX5, "wrongRow", "(I)I"⟩
abbrev cX5_isGround : ByteArray := prog_7_method_54_code
def yX5_isGround : MethodName := ⟨RX5, "isGround", "(I)Z"⟩
abbrev cX5_where : ByteArray := prog_7_method_55_code
def yX5_where : MethodName := ⟨RX5, "where", "(I)I"⟩
abbrev cX5_flows : ByteArray := prog_7_method_56_code
def yX5_flows : MethodName := ⟨RX5, "flows", "(II)I"⟩
abbrev cX5_kinds : ByteArray := prog_7_method_57_code
def yX5_kinds : MethodName := ⟨RX5, "kinds", "(II)I"⟩
abbrev cX5_greatest : ByteArray := prog_7_method_58_code
def yX5_greatest : MethodName := ⟨RX5, "greatest", "(II)I"⟩
abbrev cX5_look : ByteArray := prog_7_method_59_code
def yX5_look : MethodName := ⟨RX5, "look", "(I)I"⟩
abbrev cX5_played : ByteArray := prog_7_method_60_code
def yX5_played : MethodName := ⟨RX5, "played", "(II)I"⟩
abbrev cX5_duel : ByteArray := prog_7_method_61_code
def yX5_duel : MethodName := ⟨RX5, "duel", "(I)I"⟩
abbrev cX5_tells : ByteArray := prog_7_method_62_code
def yX5_tells : MethodName := ⟨RX5, "tells", "(JJ)V"⟩
abbrev cX5_weighs : ByteArray := prog_7_method_63_code
def yX5_weighs : MethodName := ⟨RX5, "weighs", "(II)J"⟩
abbrev cX5_odds : ByteArray := prog_7_method_64_code
def yX5_odds : MethodName := ⟨RX5, "odds", "(II)I"⟩
abbrev cX5_mid : ByteArray := prog_7_method_65_code
def yX5_mid : MethodName := ⟨RX5, "mid", "(I)I"⟩
abbrev cX5_lots : ByteArray := prog_7_method_66_code
def yX5_lots : MethodName := ⟨RX5, "lots", "(II)I"⟩
abbrev cX5_asked : ByteArray := prog_7_method_67_code
def yX5_asked : MethodName := ⟨RX5, "asked", "()I"⟩
abbrev cX5_upper : ByteArray := prog_7_method_68_code
def yX5_upper : MethodName := ⟨RX5, "upper", "()J"⟩
abbrev cX5_lower : ByteArray := prog_7_method_69_code
def yX5_lower : MethodName := ⟨RX5, "lower", "()J"⟩
abbrev cX5_manyOf : ByteArray := prog_7_method_70_code
def yX5_manyOf : MethodName := ⟨RX5, "manyOf", "(I)I"⟩
abbrev cX5_count : ByteArray := prog_7_method_71_code
def yX5_count : MethodName := ⟨RX5, "count", "(I)I"⟩
abbrev cX5_finding : ByteArray := prog_7_method_72_code
def yX5_finding : MethodName := ⟨RX5, "finding", "()I"⟩
abbrev cX5_findings : ByteArray := prog_7_method_73_code
def yX5_findings : MethodName := ⟨RX5, "findings", "(I)I"⟩
abbrev cX5_digest : ByteArray := prog_7_method_74_code
def yX5_digest : MethodName := ⟨RX5, "digest", "()J"⟩
def RJ6 : String := "java/lang/Integer"
abbrev cJ6_bitCount_0f7a4 : ByteArray := prog_8_method_49_code
def yJ6_bitCount_0f7a4 : MethodName := ⟨RJ6, "bitCount", "(I)I"⟩
def RL : String := "LeatDaysLaw"
abbrev vwCl : List vw_C := [(RX0, TX0, 5), (RX1, TX1, 3), (RX2, TX2, 2), (RX3, TX3, 5), (RX4, TX4, 14), (RX5, TX5, 22)]
abbrev mt_I : Type := MethodName × ByteArray × Nat × Option FieldType
abbrev mX0_init : mt_I := (yX0_init, cX0_init, 1, none)
abbrev mX4_kindByLetter : mt_I := (yX4_kindByLetter, cX4_kindByLetter, 1, (some .int))
abbrev mX0_read : mt_I := (yX0_read, cX0_read, 3, none)
abbrev mX0_copyOf : mt_I := (yX0_copyOf, cX0_copyOf, 3, none)
abbrev mX0_wasFished : mt_I := (yX0_wasFished, cX0_wasFished, 2, (some .boolean))
abbrev mX0_setFished : mt_I := (yX0_setFished, cX0_setFished, 2, none)
abbrev mX0_drift : mt_I := (yX0_drift, cX0_drift, 2, (some .int))
abbrev mX0_flour : mt_I := (yX0_flour, cX0_flour, 5, (some .int))
abbrev mX0_litter : mt_I := (yX0_litter, cX0_litter, 3, (some .int))
abbrev mX4_isOfKind : mt_I := (yX4_isOfKind, cX4_isOfKind, 2, (some .boolean))
abbrev mX0_howManyOf : mt_I := (yX0_howManyOf, cX0_howManyOf, 4, (some .int))
abbrev mX1_init : mt_I := (yX1_init, cX1_init, 1, none)
abbrev mX1_isFull : mt_I := (yX1_isFull, cX1_isFull, 1, (some .boolean))
abbrev mX1_add : mt_I := (yX1_add, cX1_add, 3, none)
abbrev mX1_copyOf : mt_I := (yX1_copyOf, cX1_copyOf, 3, none)
abbrev mX2_init : mt_I := (yX2_init, cX2_init, 1, none)
abbrev mX2_isThere : mt_I := (yX2_isThere, cX2_isThere, 1, (some .boolean))
abbrev mX2_make : mt_I := (yX2_make, cX2_make, 4, none)
abbrev mX2_hasFrom : mt_I := (yX2_hasFrom, cX2_hasFrom, 3, (some .boolean))
abbrev mX2_sum : mt_I := (yX2_sum, cX2_sum, 4, (some .long))
abbrev mX2_mixedInto : mt_I := (yX2_mixedInto, cX2_mixedInto, 6, (some .long))
abbrev mX3_init : mt_I := (yX3_init, cX3_init, 1, none)
abbrev mX3_start : mt_I := (yX3_start, cX3_start, 1, none)
abbrev mX3_copyOf : mt_I := (yX3_copyOf, cX3_copyOf, 2, none)
abbrev mX3_turn : mt_I := (yX3_turn, cX3_turn, 1, none)
abbrev mX3_pass : mt_I := (yX3_pass, cX3_pass, 2, none)
abbrev mX3_goRound : mt_I := (yX3_goRound, cX3_goRound, 3, (some .int))
abbrev mX4_init : mt_I := (yX4_init, cX4_init, 2, none)
abbrev mX4_within : mt_I := (yX4_within, cX4_within, 3, (some .boolean))
abbrev mX4_isRow : mt_I := (yX4_isRow, cX4_isRow, 1, (some .boolean))
abbrev mX4_found : mt_I := (yX4_found, cX4_found, 2, (some .int))
abbrev mX4_row : mt_I := (yX4_row, cX4_row, 3, (some .int))
abbrev mX4_missingPlace : mt_I := (yX4_missingPlace, cX4_missingPlace, 2, (some .int))
abbrev mX4_lay : mt_I := (yX4_lay, cX4_lay, 5, (some .int))
abbrev mX4_at : mt_I := (yX4_at, cX4_at, 4, (some .int))
abbrev mX4_tear : mt_I := (yX4_tear, cX4_tear, 2, (some .int))
abbrev mX4_copy : mt_I := (yX4_copy, cX4_copy, 6, (some .int))
abbrev mX4_mean : mt_I := (yX4_mean, cX4_mean, 2, (some .int))
abbrev mX4_isText : mt_I := (yX4_isText, cX4_isText, 1, (some .boolean))
abbrev mX4_text : mt_I := (yX4_text, cX4_text, 3, (some .int))
abbrev mX4_put : mt_I := (yX4_put, cX4_put, 6, (some .int))
abbrev mX4_faultOfItem : mt_I := (yX4_faultOfItem, cX4_faultOfItem, 3, (some .int))
abbrev mX4_faultOf : mt_I := (yX4_faultOf, cX4_faultOf, 4, (some .int))
abbrev mX4_fault : mt_I := (yX4_fault, cX4_fault, 2, (some .int))
abbrev mX4_apply : mt_I := (yX4_apply, cX4_apply, 4, (some .int))
abbrev mX4_doAgain : mt_I := (yX4_doAgain, cX4_doAgain, 2, none)
abbrev mX4_leat : mt_I := (yX4_leat, cX4_leat, 3, (some .int))
abbrev mX4_isDay : mt_I := (yX4_isDay, cX4_isDay, 2, (some .boolean))
abbrev mX4_toldOfDay : mt_I := (yX4_toldOfDay, cX4_toldOfDay, 3, (some .int))
abbrev mX4_day : mt_I := (yX4_day, cX4_day, 3, (some .int))
abbrev mX4_leavesMoreThan : mt_I := (yX4_leavesMoreThan, cX4_leavesMoreThan, 3, (some .int))
abbrev mX4_grindsMoreThan : mt_I := (yX4_grindsMoreThan, cX4_grindsMoreThan, 3, (some .int))
abbrev mX4_markOf : mt_I := (yX4_markOf, cX4_markOf, 3, (some .int))
abbrev mX4_mark : mt_I := (yX4_mark, cX4_mark, 3, (some .int))
abbrev mX4_grinds : mt_I := (yX4_grinds, cX4_grinds, 4, (some .int))
abbrev mX4_noDays : mt_I := (yX4_noDays, cX4_noDays, 1, (some .boolean))
abbrev mX4_doDeed : mt_I := (yX4_doDeed, cX4_doDeed, 3, (some .int))
abbrev mX4_step : mt_I := (yX4_step, cX4_step, 2, (some .int))
abbrev mX4_hatch : mt_I := (yX4_hatch, cX4_hatch, 2, (some .int))
abbrev mX4_rake : mt_I := (yX4_rake, cX4_rake, 1, (some .int))
abbrev mX4_fish : mt_I := (yX4_fish, cX4_fish, 2, (some .int))
abbrev mX4_undo : mt_I := (yX4_undo, cX4_undo, 3, (some .int))
abbrev mX4_isPlace : mt_I := (yX4_isPlace, cX4_isPlace, 1, (some .boolean))
abbrev mX4_keep : mt_I := (yX4_keep, cX4_keep, 2, (some .int))
abbrev mX4_on : mt_I := (yX4_on, cX4_on, 2, (some .int))
abbrev mX4_startTrial : mt_I := (yX4_startTrial, cX4_startTrial, 1, none)
abbrev mX4_groundIn : mt_I := (yX4_groundIn, cX4_groundIn, 4, (some .int))
abbrev mX4_mill : mt_I := (yX4_mill, cX4_mill, 3, (some .int))
abbrev mX4_turns : mt_I := (yX4_turns, cX4_turns, 3, (some .int))
abbrev mX4_book : mt_I := (yX4_book, cX4_book, 6, (some .int))
abbrev mX4_best : mt_I := (yX4_best, cX4_best, 6, (some .int))
abbrev mX4_mostSetting : mt_I := (yX4_mostSetting, cX4_mostSetting, 7, (some .int))
abbrev mX4_bestSetting : mt_I := (yX4_bestSetting, cX4_bestSetting, 6, (some .int))
abbrev mX4_plan : mt_I := (yX4_plan, cX4_plan, 5, (some .int))
abbrev mJ6_bitCount_0f7a4 : mt_I := (yJ6_bitCount_0f7a4, cJ6_bitCount_0f7a4, 1, (some .int))
abbrev mX4_groundRaking : mt_I := (yX4_groundRaking, cX4_groundRaking, 4, (some .int))
abbrev mX4_rakes : mt_I := (yX4_rakes, cX4_rakes, 7, (some .int))
abbrev mX4_fishes : mt_I := (yX4_fishes, cX4_fishes, 6, (some .int))
abbrev mX4_wrongNumbers : mt_I := (yX4_wrongNumbers, cX4_wrongNumbers, 2, (some .int))
abbrev mX4_grindsSo : mt_I := (yX4_grindsSo, cX4_grindsSo, 5, (some .boolean))
abbrev mX4_where : mt_I := (yX4_where, cX4_where, 5, (some .int))
abbrev mX4_flows : mt_I := (yX4_flows, cX4_flows, 6, (some .int))
abbrev mX4_kinds : mt_I := (yX4_kinds, cX4_kinds, 6, (some .int))
abbrev mX4_kindsGrinding : mt_I := (yX4_kindsGrinding, cX4_kindsGrinding, 6, (some .int))
abbrev mX4_greatestPart : mt_I := (yX4_greatestPart, cX4_greatestPart, 5, (some .int))
abbrev mX4_look : mt_I := (yX4_look, cX4_look, 6, (some .int))
abbrev mX4_groundAfterDuel : mt_I := (yX4_groundAfterDuel, cX4_groundAfterDuel, 4, (some .int))
abbrev mX4_millersTurn : mt_I := (yX4_millersTurn, cX4_millersTurn, 7, (some .int))
abbrev mX4_throwersTurn : mt_I := (yX4_throwersTurn, cX4_throwersTurn, 6, (some .int))
abbrev mX4_duel : mt_I := (yX4_duel, cX4_duel, 2, (some .int))
abbrev mX4_groundWithDry : mt_I := (yX4_groundWithDry, cX4_groundWithDry, 3, (some .int))
abbrev mX4_power : mt_I := (yX4_power, cX4_power, 5, (some .long))
abbrev mX4_weightOf : mt_I := (yX4_weightOf, cX4_weightOf, 3, (some .long))
abbrev mX4_commonDivisor : mt_I := (yX4_commonDivisor, cX4_commonDivisor, 11, (some .long))
abbrev mX4_tell : mt_I := (yX4_tell, cX4_tell, 7, none)
abbrev mX4_odds : mt_I := (yX4_odds, cX4_odds, 6, (some .int))
abbrev mX4_mid : mt_I := (yX4_mid, cX4_mid, 5, (some .int))
abbrev mX4_doByLot : mt_I := (yX4_doByLot, cX4_doByLot, 2, none)
abbrev mX4_lots : mt_I := (yX4_lots, cX4_lots, 5, (some .int))
abbrev mX4_asked : mt_I := (yX4_asked, cX4_asked, 1, (some .int))
abbrev mX4_upper : mt_I := (yX4_upper, cX4_upper, 1, (some .long))
abbrev mX4_lower : mt_I := (yX4_lower, cX4_lower, 1, (some .long))
abbrev mX4_stripsThere : mt_I := (yX4_stripsThere, cX4_stripsThere, 3, (some .int))
abbrev mX4_keptThere : mt_I := (yX4_keptThere, cX4_keptThere, 3, (some .int))
abbrev mX4_count : mt_I := (yX4_count, cX4_count, 2, (some .int))
abbrev mX4_finding : mt_I := (yX4_finding, cX4_finding, 1, (some .int))
abbrev mX4_findings : mt_I := (yX4_findings, cX4_findings, 2, (some .int))
abbrev mX4_digest : mt_I := (yX4_digest, cX4_digest, 5, (some .long))
abbrev mX5_init : mt_I := (yX5_init, cX5_init, 2, none)
abbrev mX5_in : mt_I := (yX5_in, cX5_in, 6, (some .boolean))
abbrev mX5_has : mt_I := (yX5_has, cX5_has, 2, (some .boolean))
abbrev mX5_bits : mt_I := (yX5_bits, cX5_bits, 3, (some .int))
abbrev mX5_smaller : mt_I := (yX5_smaller, cX5_smaller, 2, (some .int))
abbrev mX5_larger : mt_I := (yX5_larger, cX5_larger, 2, (some .int))
abbrev mX5_finds : mt_I := (yX5_finds, cX5_finds, 2, (some .int))
abbrev mX5_begins : mt_I := (yX5_begins, cX5_begins, 4, none)
abbrev mX5_row : mt_I := (yX5_row, cX5_row, 3, (some .int))
abbrev mX5_lay : mt_I := (yX5_lay, cX5_lay, 4, (some .int))
abbrev mX5_at : mt_I := (yX5_at, cX5_at, 3, (some .int))
abbrev mX5_tear : mt_I := (yX5_tear, cX5_tear, 2, (some .int))
abbrev mX5_copy : mt_I := (yX5_copy, cX5_copy, 8, (some .int))
abbrev mX5_mean : mt_I := (yX5_mean, cX5_mean, 5, (some .int))
abbrev mX5_text : mt_I := (yX5_text, cX5_text, 4, (some .int))
abbrev mX5_put : mt_I := (yX5_put, cX5_put, 5, (some .int))
abbrev mX5_byteAt : mt_I := (yX5_byteAt, cX5_byteAt, 3, (some .int))
abbrev mX5_kindOf : mt_I := (yX5_kindOf, cX5_kindOf, 1, (some .int))
abbrev mX5_reads : mt_I := (yX5_reads, cX5_reads, 3, (some .int))
abbrev mX5_fault : mt_I := (yX5_fault, cX5_fault, 2, (some .int))
abbrev mX5_leat : mt_I := (yX5_leat, cX5_leat, 3, (some .int))
abbrev mX5_now : mt_I := (yX5_now, cX5_now, 1, (some .int))
abbrev mX5_grindsAs : mt_I := (yX5_grindsAs, cX5_grindsAs, 8, (some .int))
abbrev mX5_leavesAs : mt_I := (yX5_leavesAs, cX5_leavesAs, 2, (some .int))
abbrev mX5_driftOf : mt_I := (yX5_driftOf, cX5_driftOf, 3, (some .int))
abbrev mX5_grindsNow : mt_I := (yX5_grindsNow, cX5_grindsNow, 3, (some .int))
abbrev mX5_leavesNow : mt_I := (yX5_leavesNow, cX5_leavesNow, 3, (some .int))
abbrev mX5_isDay : mt_I := (yX5_isDay, cX5_isDay, 2, (some .boolean))
abbrev mX5_dayTold : mt_I := (yX5_dayTold, cX5_dayTold, 4, (some .int))
abbrev mX5_day : mt_I := (yX5_day, cX5_day, 3, (some .int))
abbrev mX5_isOf : mt_I := (yX5_isOf, cX5_isOf, 2, (some .boolean))
abbrev mX5_mark : mt_I := (yX5_mark, cX5_mark, 10, (some .int))
abbrev mX5_grinds : mt_I := (yX5_grinds, cX5_grinds, 4, (some .int))
abbrev mX5_steps : mt_I := (yX5_steps, cX5_steps, 5, (some .int))
abbrev mX5_copies : mt_I := (yX5_copies, cX5_copies, 4, none)
abbrev mX5_deed : mt_I := (yX5_deed, cX5_deed, 1, (some .int))
abbrev mX5_step : mt_I := (yX5_step, cX5_step, 2, (some .int))
abbrev mX5_hatch : mt_I := (yX5_hatch, cX5_hatch, 3, (some .int))
abbrev mX5_rake : mt_I := (yX5_rake, cX5_rake, 2, (some .int))
abbrev mX5_fish : mt_I := (yX5_fish, cX5_fish, 2, (some .int))
abbrev mX5_undo : mt_I := (yX5_undo, cX5_undo, 3, (some .int))
abbrev mX5_keep : mt_I := (yX5_keep, cX5_keep, 3, (some .int))
abbrev mX5_on : mt_I := (yX5_on, cX5_on, 3, (some .int))
abbrev mX5_tries : mt_I := (yX5_tries, cX5_tries, 1, none)
abbrev mX5_many : mt_I := (yX5_many, cX5_many, 4, (some .int))
abbrev mX5_mill : mt_I := (yX5_mill, cX5_mill, 3, (some .int))
abbrev mX5_turns : mt_I := (yX5_turns, cX5_turns, 3, (some .int))
abbrev mX5_book : mt_I := (yX5_book, cX5_book, 4, (some .int))
abbrev mX5_best : mt_I := (yX5_best, cX5_best, 6, (some .int))
abbrev mX5_plan : mt_I := (yX5_plan, cX5_plan, 10, (some .int))
abbrev mX5_rakes : mt_I := (yX5_rakes, cX5_rakes, 7, (some .int))
abbrev mX5_fishes : mt_I := (yX5_fishes, cX5_fishes, 6, (some .int))
abbrev mX5_wrongRow : mt_I := (yX5_wrongRow, cX5_wrongRow, 4, (some .int))
abbrev mX5_isGround : mt_I := (yX5_isGround, cX5_isGround, 4, (some .boolean))
abbrev mX5_where : mt_I := (yX5_where, cX5_where, 5, (some .int))
abbrev mX5_flows : mt_I := (yX5_flows, cX5_flows, 7, (some .int))
abbrev mX5_kinds : mt_I := (yX5_kinds, cX5_kinds, 7, (some .int))
abbrev mX5_greatest : mt_I := (yX5_greatest, cX5_greatest, 8, (some .int))
abbrev mX5_look : mt_I := (yX5_look, cX5_look, 4, (some .int))
abbrev mX5_played : mt_I := (yX5_played, cX5_played, 6, (some .int))
abbrev mX5_duel : mt_I := (yX5_duel, cX5_duel, 8, (some .int))
abbrev mX5_tells : mt_I := (yX5_tells, cX5_tells, 11, none)
abbrev mX5_weighs : mt_I := (yX5_weighs, cX5_weighs, 10, (some .long))
abbrev mX5_odds : mt_I := (yX5_odds, cX5_odds, 3, (some .int))
abbrev mX5_mid : mt_I := (yX5_mid, cX5_mid, 2, (some .int))
abbrev mX5_lots : mt_I := (yX5_lots, cX5_lots, 7, (some .int))
abbrev mX5_asked : mt_I := (yX5_asked, cX5_asked, 1, (some .int))
abbrev mX5_upper : mt_I := (yX5_upper, cX5_upper, 1, (some .long))
abbrev mX5_lower : mt_I := (yX5_lower, cX5_lower, 1, (some .long))
abbrev mX5_manyOf : mt_I := (yX5_manyOf, cX5_manyOf, 4, (some .int))
abbrev mX5_count : mt_I := (yX5_count, cX5_count, 3, (some .int))
abbrev mX5_finding : mt_I := (yX5_finding, cX5_finding, 1, (some .int))
abbrev mX5_findings : mt_I := (yX5_findings, cX5_findings, 2, (some .int))
abbrev mX5_digest : mt_I := (yX5_digest, cX5_digest, 5, (some .long))
end
section
theorem dX0_init_0 : decode cX0_init 0 = .ok (.aload_n 0, 1) := by decide +kernel
theorem dX0_init_1 : decode cX0_init 1 = .ok (.invokespecial 3, 3) := by decide +kernel
theorem dX0_init_4 : decode cX0_init 4 = .ok (.aload_n 0, 1) := by decide +kernel
theorem dX0_init_5 : decode cX0_init 5 = .ok (.bipush 9, 2) := by decide +kernel
theorem dX0_init_7 : decode cX0_init 7 = .ok (.newarray .int, 2) := by decide +kernel
theorem dX0_init_9 : decode cX0_init 9 = .ok (.putfield 9, 3) := by decide +kernel
theorem dX0_init_12 : decode cX0_init 12 = .ok (.aload_n 0, 1) := by decide +kernel
theorem dX0_init_13 : decode cX0_init 13 = .ok (.bipush 9, 2) := by decide +kernel
theorem dX0_init_15 : decode cX0_init 15 = .ok (.newarray .int, 2) := by decide +kernel
theorem dX0_init_17 : decode cX0_init 17 = .ok (.putfield 15, 3) := by decide +kernel
theorem dX0_init_20 : decode cX0_init 20 = .ok (.aload_n 0, 1) := by decide +kernel
theorem dX0_init_21 : decode cX0_init 21 = .ok (.bipush 9, 2) := by decide +kernel
theorem dX0_init_23 : decode cX0_init 23 = .ok (.newarray .int, 2) := by decide +kernel
theorem dX0_init_25 : decode cX0_init 25 = .ok (.putfield 18, 3) := by decide +kernel
theorem dX0_init_28 : decode cX0_init 28 = .ok (.aload_n 0, 1) := by decide +kernel
theorem dX0_init_29 : decode cX0_init 29 = .ok (.iconst 0, 1) := by decide +kernel
theorem dX0_init_30 : decode cX0_init 30 = .ok (.putfield 21, 3) := by decide +kernel
theorem dX0_init_33 : decode cX0_init 33 = .ok (.aload_n 0, 1) := by decide +kernel
theorem dX0_init_34 : decode cX0_init 34 = .ok (.iconst 0, 1) := by decide +kernel
theorem dX0_init_35 : decode cX0_init 35 = .ok (.putfield 25, 3) := by decide +kernel
theorem dX0_init_38 : decode cX0_init 38 = .ok (.return_, 1) := by decide +kernel
theorem dX0_read_0 : decode cX0_read 0 = .ok (.aload_n 0, 1) := by decide +kernel
theorem dX0_read_1 : decode cX0_read 1 = .ok (.iconst 0, 1) := by decide +kernel
theorem dX0_read_2 : decode cX0_read 2 = .ok (.putfield 21, 3) := by decide +kernel
theorem dX0_read_5 : decode cX0_read 5 = .ok (.iconst 0, 1) := by decide +kernel
theorem dX0_read_6 : decode cX0_read 6 = .ok (.istore_n 2, 1) := by decide +kernel
theorem dX0_read_7 : decode cX0_read 7 = .ok (.iload_n 2, 1) := by decide +kernel
theorem dX0_read_8 : decode cX0_read 8 = .ok (.aload_n 1, 1) := by decide +kernel
theorem dX0_read_9 : decode cX0_read 9 = .ok (.getfield 28, 3) := by decide +kernel
theorem dX0_read_12 : decode cX0_read 12 = .ok (.if_icmp .ge 113, 3) := by decide +kernel
theorem dX0_read_15 : decode cX0_read 15 = .ok (.aload_n 1, 1) := by decide +kernel
theorem dX0_read_16 : decode cX0_read 16 = .ok (.getfield 31, 3) := by decide +kernel
theorem dX0_read_19 : decode cX0_read 19 = .ok (.iload_n 2, 1) := by decide +kernel
theorem dX0_read_20 : decode cX0_read 20 = .ok (.iaload, 1) := by decide +kernel
theorem dX0_read_21 : decode cX0_read 21 = .ok (.bipush 32, 2) := by decide +kernel
theorem dX0_read_23 : decode cX0_read 23 = .ok (.if_icmp .ne 9, 3) := by decide +kernel
theorem dX0_read_26 : decode cX0_read 26 = .ok (.iinc 2 1, 3) := by decide +kernel
theorem dX0_read_29 : decode cX0_read 29 = .ok (.goto (-22), 3) := by decide +kernel
theorem dX0_read_32 : decode cX0_read 32 = .ok (.aload_n 0, 1) := by decide +kernel
theorem dX0_read_33 : decode cX0_read 33 = .ok (.getfield 21, 3) := by decide +kernel
theorem dX0_read_36 : decode cX0_read 36 = .ok (.bipush 9, 2) := by decide +kernel
theorem dX0_read_38 : decode cX0_read 38 = .ok (.if_icmp .ge 81, 3) := by decide +kernel
theorem dX0_read_41 : decode cX0_read 41 = .ok (.iload_n 2, 1) := by decide +kernel
theorem dX0_read_42 : decode cX0_read 42 = .ok (.iconst 2, 1) := by decide +kernel
theorem dX0_read_43 : decode cX0_read 43 = .ok (.iadd, 1) := by decide +kernel
theorem dX0_read_44 : decode cX0_read 44 = .ok (.aload_n 1, 1) := by decide +kernel
theorem dX0_read_45 : decode cX0_read 45 = .ok (.getfield 28, 3) := by decide +kernel
theorem dX0_read_48 : decode cX0_read 48 = .ok (.if_icmp .ge 71, 3) := by decide +kernel
theorem dX0_read_51 : decode cX0_read 51 = .ok (.aload_n 0, 1) := by decide +kernel
theorem dX0_read_52 : decode cX0_read 52 = .ok (.getfield 9, 3) := by decide +kernel
theorem dX0_read_55 : decode cX0_read 55 = .ok (.aload_n 0, 1) := by decide +kernel
theorem dX0_read_56 : decode cX0_read 56 = .ok (.getfield 21, 3) := by decide +kernel
theorem dX0_read_59 : decode cX0_read 59 = .ok (.aload_n 1, 1) := by decide +kernel
theorem dX0_read_60 : decode cX0_read 60 = .ok (.getfield 31, 3) := by decide +kernel
theorem dX0_read_63 : decode cX0_read 63 = .ok (.iload_n 2, 1) := by decide +kernel
theorem dX0_read_64 : decode cX0_read 64 = .ok (.iaload, 1) := by decide +kernel
theorem dX0_read_65 : decode cX0_read 65 = .ok (.invokestatic 34, 3) := by decide +kernel
theorem dX0_read_68 : decode cX0_read 68 = .ok (.iastore, 1) := by decide +kernel
theorem dX0_read_69 : decode cX0_read 69 = .ok (.aload_n 0, 1) := by decide +kernel
theorem dX0_read_70 : decode cX0_read 70 = .ok (.getfield 15, 3) := by decide +kernel
theorem dX0_read_73 : decode cX0_read 73 = .ok (.aload_n 0, 1) := by decide +kernel
theorem dX0_read_74 : decode cX0_read 74 = .ok (.getfield 21, 3) := by decide +kernel
theorem dX0_read_77 : decode cX0_read 77 = .ok (.aload_n 1, 1) := by decide +kernel
theorem dX0_read_78 : decode cX0_read 78 = .ok (.getfield 31, 3) := by decide +kernel
theorem dX0_read_81 : decode cX0_read 81 = .ok (.iload_n 2, 1) := by decide +kernel
theorem dX0_read_82 : decode cX0_read 82 = .ok (.iconst 1, 1) := by decide +kernel
theorem dX0_read_83 : decode cX0_read 83 = .ok (.iadd, 1) := by decide +kernel
theorem dX0_read_84 : decode cX0_read 84 = .ok (.iaload, 1) := by decide +kernel
theorem dX0_read_85 : decode cX0_read 85 = .ok (.bipush 48, 2) := by decide +kernel
theorem dX0_read_87 : decode cX0_read 87 = .ok (.isub, 1) := by decide +kernel
theorem dX0_read_88 : decode cX0_read 88 = .ok (.iastore, 1) := by decide +kernel
theorem dX0_read_89 : decode cX0_read 89 = .ok (.aload_n 0, 1) := by decide +kernel
theorem dX0_read_90 : decode cX0_read 90 = .ok (.getfield 18, 3) := by decide +kernel
theorem dX0_read_93 : decode cX0_read 93 = .ok (.aload_n 0, 1) := by decide +kernel
theorem dX0_read_94 : decode cX0_read 94 = .ok (.getfield 21, 3) := by decide +kernel
theorem dX0_read_97 : decode cX0_read 97 = .ok (.aload_n 1, 1) := by decide +kernel
theorem dX0_read_98 : decode cX0_read 98 = .ok (.getfield 31, 3) := by decide +kernel
theorem dX0_read_101 : decode cX0_read 101 = .ok (.iload_n 2, 1) := by decide +kernel
theorem dX0_read_102 : decode cX0_read 102 = .ok (.iconst 2, 1) := by decide +kernel
theorem dX0_read_103 : decode cX0_read 103 = .ok (.iadd, 1) := by decide +kernel
theorem dX0_read_104 : decode cX0_read 104 = .ok (.iaload, 1) := by decide +kernel
theorem dX0_read_105 : decode cX0_read 105 = .ok (.bipush 48, 2) := by decide +kernel
theorem dX0_read_107 : decode cX0_read 107 = .ok (.isub, 1) := by decide +kernel
theorem dX0_read_108 : decode cX0_read 108 = .ok (.iastore, 1) := by decide +kernel
theorem dX0_read_109 : decode cX0_read 109 = .ok (.aload_n 0, 1) := by decide +kernel
theorem dX0_read_110 : decode cX0_read 110 = .ok (.dup, 1) := by decide +kernel
theorem dX0_read_111 : decode cX0_read 111 = .ok (.getfield 21, 3) := by decide +kernel
theorem dX0_read_114 : decode cX0_read 114 = .ok (.iconst 1, 1) := by decide +kernel
theorem dX0_read_115 : decode cX0_read 115 = .ok (.iadd, 1) := by decide +kernel
theorem dX0_read_116 : decode cX0_read 116 = .ok (.putfield 21, 3) := by decide +kernel
theorem dX0_read_119 : decode cX0_read 119 = .ok (.iinc 2 3, 3) := by decide +kernel
theorem dX0_read_122 : decode cX0_read 122 = .ok (.goto (-115), 3) := by decide +kernel
theorem dX0_read_125 : decode cX0_read 125 = .ok (.return_, 1) := by decide +kernel
theorem dX0_copyOf_0 : decode cX0_copyOf 0 = .ok (.iconst 0, 1) := by decide +kernel
theorem dX0_copyOf_1 : decode cX0_copyOf 1 = .ok (.istore_n 2, 1) := by decide +kernel
theorem dX0_copyOf_2 : decode cX0_copyOf 2 = .ok (.iload_n 2, 1) := by decide +kernel
theorem dX0_copyOf_3 : decode cX0_copyOf 3 = .ok (.bipush 9, 2) := by decide +kernel
theorem dX0_copyOf_5 : decode cX0_copyOf 5 = .ok (.if_icmp .ge 45, 3) := by decide +kernel
theorem dX0_copyOf_8 : decode cX0_copyOf 8 = .ok (.aload_n 0, 1) := by decide +kernel
theorem dX0_copyOf_9 : decode cX0_copyOf 9 = .ok (.getfield 9, 3) := by decide +kernel
theorem dX0_copyOf_12 : decode cX0_copyOf 12 = .ok (.iload_n 2, 1) := by decide +kernel
theorem dX0_copyOf_13 : decode cX0_copyOf 13 = .ok (.aload_n 1, 1) := by decide +kernel
theorem dX0_copyOf_14 : decode cX0_copyOf 14 = .ok (.getfield 9, 3) := by decide +kernel
theorem dX0_copyOf_17 : decode cX0_copyOf 17 = .ok (.iload_n 2, 1) := by decide +kernel
theorem dX0_copyOf_18 : decode cX0_copyOf 18 = .ok (.iaload, 1) := by decide +kernel
theorem dX0_copyOf_19 : decode cX0_copyOf 19 = .ok (.iastore, 1) := by decide +kernel
theorem dX0_copyOf_20 : decode cX0_copyOf 20 = .ok (.aload_n 0, 1) := by decide +kernel
theorem dX0_copyOf_21 : decode cX0_copyOf 21 = .ok (.getfield 15, 3) := by decide +kernel
theorem dX0_copyOf_24 : decode cX0_copyOf 24 = .ok (.iload_n 2, 1) := by decide +kernel
theorem dX0_copyOf_25 : decode cX0_copyOf 25 = .ok (.aload_n 1, 1) := by decide +kernel
theorem dX0_copyOf_26 : decode cX0_copyOf 26 = .ok (.getfield 15, 3) := by decide +kernel
theorem dX0_copyOf_29 : decode cX0_copyOf 29 = .ok (.iload_n 2, 1) := by decide +kernel
theorem dX0_copyOf_30 : decode cX0_copyOf 30 = .ok (.iaload, 1) := by decide +kernel
theorem dX0_copyOf_31 : decode cX0_copyOf 31 = .ok (.iastore, 1) := by decide +kernel
theorem dX0_copyOf_32 : decode cX0_copyOf 32 = .ok (.aload_n 0, 1) := by decide +kernel
theorem dX0_copyOf_33 : decode cX0_copyOf 33 = .ok (.getfield 18, 3) := by decide +kernel
theorem dX0_copyOf_36 : decode cX0_copyOf 36 = .ok (.iload_n 2, 1) := by decide +kernel
theorem dX0_copyOf_37 : decode cX0_copyOf 37 = .ok (.aload_n 1, 1) := by decide +kernel
theorem dX0_copyOf_38 : decode cX0_copyOf 38 = .ok (.getfield 18, 3) := by decide +kernel
theorem dX0_copyOf_41 : decode cX0_copyOf 41 = .ok (.iload_n 2, 1) := by decide +kernel
theorem dX0_copyOf_42 : decode cX0_copyOf 42 = .ok (.iaload, 1) := by decide +kernel
theorem dX0_copyOf_43 : decode cX0_copyOf 43 = .ok (.iastore, 1) := by decide +kernel
theorem dX0_copyOf_44 : decode cX0_copyOf 44 = .ok (.iinc 2 1, 3) := by decide +kernel
theorem dX0_copyOf_47 : decode cX0_copyOf 47 = .ok (.goto (-45), 3) := by decide +kernel
theorem dX0_copyOf_50 : decode cX0_copyOf 50 = .ok (.aload_n 0, 1) := by decide +kernel
theorem dX0_copyOf_51 : decode cX0_copyOf 51 = .ok (.aload_n 1, 1) := by decide +kernel
theorem dX0_copyOf_52 : decode cX0_copyOf 52 = .ok (.getfield 21, 3) := by decide +kernel
theorem dX0_copyOf_55 : decode cX0_copyOf 55 = .ok (.putfield 21, 3) := by decide +kernel
theorem dX0_copyOf_58 : decode cX0_copyOf 58 = .ok (.aload_n 0, 1) := by decide +kernel
theorem dX0_copyOf_59 : decode cX0_copyOf 59 = .ok (.aload_n 1, 1) := by decide +kernel
theorem dX0_copyOf_60 : decode cX0_copyOf 60 = .ok (.getfield 25, 3) := by decide +kernel
theorem dX0_copyOf_63 : decode cX0_copyOf 63 = .ok (.putfield 25, 3) := by decide +kernel
theorem dX0_copyOf_66 : decode cX0_copyOf 66 = .ok (.return_, 1) := by decide +kernel
theorem dX0_wasFished_0 : decode cX0_wasFished 0 = .ok (.aload_n 0, 1) := by decide +kernel
theorem dX0_wasFished_1 : decode cX0_wasFished 1 = .ok (.getfield 25, 3) := by decide +kernel
theorem dX0_wasFished_4 : decode cX0_wasFished 4 = .ok (.iload_n 1, 1) := by decide +kernel
theorem dX0_wasFished_5 : decode cX0_wasFished 5 = .ok (.ishr, 1) := by decide +kernel
theorem dX0_wasFished_6 : decode cX0_wasFished 6 = .ok (.iconst 1, 1) := by decide +kernel
theorem dX0_wasFished_7 : decode cX0_wasFished 7 = .ok (.iand, 1) := by decide +kernel
theorem dX0_wasFished_8 : decode cX0_wasFished 8 = .ok (.iconst 1, 1) := by decide +kernel
theorem dX0_wasFished_9 : decode cX0_wasFished 9 = .ok (.if_icmp .ne 7, 3) := by decide +kernel
theorem dX0_wasFished_12 : decode cX0_wasFished 12 = .ok (.iconst 1, 1) := by decide +kernel
theorem dX0_wasFished_13 : decode cX0_wasFished 13 = .ok (.goto 4, 3) := by decide +kernel
theorem dX0_wasFished_16 : decode cX0_wasFished 16 = .ok (.iconst 0, 1) := by decide +kernel
theorem dX0_wasFished_17 : decode cX0_wasFished 17 = .ok (.ireturn, 1) := by decide +kernel
theorem dX0_setFished_0 : decode cX0_setFished 0 = .ok (.aload_n 0, 1) := by decide +kernel
theorem dX0_setFished_1 : decode cX0_setFished 1 = .ok (.dup, 1) := by decide +kernel
theorem dX0_setFished_2 : decode cX0_setFished 2 = .ok (.getfield 25, 3) := by decide +kernel
theorem dX0_setFished_5 : decode cX0_setFished 5 = .ok (.iconst 1, 1) := by decide +kernel
theorem dX0_setFished_6 : decode cX0_setFished 6 = .ok (.iload_n 1, 1) := by decide +kernel
theorem dX0_setFished_7 : decode cX0_setFished 7 = .ok (.ishl, 1) := by decide +kernel
theorem dX0_setFished_8 : decode cX0_setFished 8 = .ok (.ior, 1) := by decide +kernel
theorem dX0_setFished_9 : decode cX0_setFished 9 = .ok (.putfield 25, 3) := by decide +kernel
theorem dX0_setFished_12 : decode cX0_setFished 12 = .ok (.return_, 1) := by decide +kernel
theorem dX0_drift_0 : decode cX0_drift 0 = .ok (.aload_n 0, 1) := by decide +kernel
theorem dX0_drift_1 : decode cX0_drift 1 = .ok (.getfield 25, 3) := by decide +kernel
theorem dX0_drift_4 : decode cX0_drift 4 = .ok (.iload_n 1, 1) := by decide +kernel
theorem dX0_drift_5 : decode cX0_drift 5 = .ok (.ishr, 1) := by decide +kernel
theorem dX0_drift_6 : decode cX0_drift 6 = .ok (.iconst 1, 1) := by decide +kernel
theorem dX0_drift_7 : decode cX0_drift 7 = .ok (.iand, 1) := by decide +kernel
theorem dX0_drift_8 : decode cX0_drift 8 = .ok (.iconst 1, 1) := by decide +kernel
theorem dX0_drift_9 : decode cX0_drift 9 = .ok (.if_icmp .ne 7, 3) := by decide +kernel
theorem dX0_drift_12 : decode cX0_drift 12 = .ok (.iconst 0, 1) := by decide +kernel
theorem dX0_drift_13 : decode cX0_drift 13 = .ok (.goto 9, 3) := by decide +kernel
theorem dX0_drift_16 : decode cX0_drift 16 = .ok (.aload_n 0, 1) := by decide +kernel
theorem dX0_drift_17 : decode cX0_drift 17 = .ok (.getfield 18, 3) := by decide +kernel
theorem dX0_drift_20 : decode cX0_drift 20 = .ok (.iload_n 1, 1) := by decide +kernel
theorem dX0_drift_21 : decode cX0_drift 21 = .ok (.iaload, 1) := by decide +kernel
theorem dX0_drift_22 : decode cX0_drift 22 = .ok (.ireturn, 1) := by decide +kernel
theorem dX0_flour_0 : decode cX0_flour 0 = .ok (.aload_n 0, 1) := by decide +kernel
theorem dX0_flour_1 : decode cX0_flour 1 = .ok (.getfield 15, 3) := by decide +kernel
theorem dX0_flour_4 : decode cX0_flour 4 = .ok (.iload_n 1, 1) := by decide +kernel
theorem dX0_flour_5 : decode cX0_flour 5 = .ok (.iaload, 1) := by decide +kernel
theorem dX0_flour_6 : decode cX0_flour 6 = .ok (.istore 4, 2) := by decide +kernel
theorem dX0_flour_8 : decode cX0_flour 8 = .ok (.aload_n 0, 1) := by decide +kernel
theorem dX0_flour_9 : decode cX0_flour 9 = .ok (.getfield 9, 3) := by decide +kernel
theorem dX0_flour_12 : decode cX0_flour 12 = .ok (.iload_n 1, 1) := by decide +kernel
theorem dX0_flour_13 : decode cX0_flour 13 = .ok (.iaload, 1) := by decide +kernel
theorem dX0_flour_14 : decode cX0_flour 14 = .ok (.tableswitch 103 1 5 #[34, 47, 103, 62, 86], 34) := by decide +kernel
theorem dX0_flour_48 : decode cX0_flour 48 = .ok (.iconst 0, 1) := by decide +kernel
theorem dX0_flour_49 : decode cX0_flour 49 = .ok (.iconst 2, 1) := by decide +kernel
theorem dX0_flour_50 : decode cX0_flour 50 = .ok (.iload 4, 2) := by decide +kernel
theorem dX0_flour_52 : decode cX0_flour 52 = .ok (.imul, 1) := by decide +kernel
theorem dX0_flour_53 : decode cX0_flour 53 = .ok (.iload_n 2, 1) := by decide +kernel
theorem dX0_flour_54 : decode cX0_flour 54 = .ok (.imul, 1) := by decide +kernel
theorem dX0_flour_55 : decode cX0_flour 55 = .ok (.iload_n 3, 1) := by decide +kernel
theorem dX0_flour_56 : decode cX0_flour 56 = .ok (.isub, 1) := by decide +kernel
theorem dX0_flour_57 : decode cX0_flour 57 = .ok (.invokestatic 38, 3) := by decide +kernel
theorem dX0_flour_60 : decode cX0_flour 60 = .ok (.ireturn, 1) := by decide +kernel
theorem dX0_flour_61 : decode cX0_flour 61 = .ok (.iconst 0, 1) := by decide +kernel
theorem dX0_flour_62 : decode cX0_flour 62 = .ok (.iload 4, 2) := by decide +kernel
theorem dX0_flour_64 : decode cX0_flour 64 = .ok (.iload_n 2, 1) := by decide +kernel
theorem dX0_flour_65 : decode cX0_flour 65 = .ok (.iconst 1, 1) := by decide +kernel
theorem dX0_flour_66 : decode cX0_flour 66 = .ok (.invokestatic 44, 3) := by decide +kernel
theorem dX0_flour_69 : decode cX0_flour 69 = .ok (.imul, 1) := by decide +kernel
theorem dX0_flour_70 : decode cX0_flour 70 = .ok (.iload_n 3, 1) := by decide +kernel
theorem dX0_flour_71 : decode cX0_flour 71 = .ok (.isub, 1) := by decide +kernel
theorem dX0_flour_72 : decode cX0_flour 72 = .ok (.invokestatic 38, 3) := by decide +kernel
theorem dX0_flour_75 : decode cX0_flour 75 = .ok (.ireturn, 1) := by decide +kernel
theorem dX0_flour_76 : decode cX0_flour 76 = .ok (.iconst 0, 1) := by decide +kernel
theorem dX0_flour_77 : decode cX0_flour 77 = .ok (.iconst 2, 1) := by decide +kernel
theorem dX0_flour_78 : decode cX0_flour 78 = .ok (.iload 4, 2) := by decide +kernel
theorem dX0_flour_80 : decode cX0_flour 80 = .ok (.imul, 1) := by decide +kernel
theorem dX0_flour_81 : decode cX0_flour 81 = .ok (.iload_n 2, 1) := by decide +kernel
theorem dX0_flour_82 : decode cX0_flour 82 = .ok (.imul, 1) := by decide +kernel
theorem dX0_flour_83 : decode cX0_flour 83 = .ok (.iload_n 3, 1) := by decide +kernel
theorem dX0_flour_84 : decode cX0_flour 84 = .ok (.isub, 1) := by decide +kernel
theorem dX0_flour_85 : decode cX0_flour 85 = .ok (.invokestatic 38, 3) := by decide +kernel
theorem dX0_flour_88 : decode cX0_flour 88 = .ok (.iload_n 2, 1) := by decide +kernel
theorem dX0_flour_89 : decode cX0_flour 89 = .ok (.iconst 4, 1) := by decide +kernel
theorem dX0_flour_90 : decode cX0_flour 90 = .ok (.if_icmp .ne 7, 3) := by decide +kernel
theorem dX0_flour_93 : decode cX0_flour 93 = .ok (.iconst 5, 1) := by decide +kernel
theorem dX0_flour_94 : decode cX0_flour 94 = .ok (.goto 4, 3) := by decide +kernel
theorem dX0_flour_97 : decode cX0_flour 97 = .ok (.iconst 0, 1) := by decide +kernel
theorem dX0_flour_98 : decode cX0_flour 98 = .ok (.iadd, 1) := by decide +kernel
theorem dX0_flour_99 : decode cX0_flour 99 = .ok (.ireturn, 1) := by decide +kernel
theorem dX0_flour_100 : decode cX0_flour 100 = .ok (.iconst 0, 1) := by decide +kernel
theorem dX0_flour_101 : decode cX0_flour 101 = .ok (.iload 4, 2) := by decide +kernel
theorem dX0_flour_103 : decode cX0_flour 103 = .ok (.iload_n 2, 1) := by decide +kernel
theorem dX0_flour_104 : decode cX0_flour 104 = .ok (.imul, 1) := by decide +kernel
theorem dX0_flour_105 : decode cX0_flour 105 = .ok (.iload_n 3, 1) := by decide +kernel
theorem dX0_flour_106 : decode cX0_flour 106 = .ok (.isub, 1) := by decide +kernel
theorem dX0_flour_107 : decode cX0_flour 107 = .ok (.aload_n 0, 1) := by decide +kernel
theorem dX0_flour_108 : decode cX0_flour 108 = .ok (.iload_n 1, 1) := by decide +kernel
theorem dX0_flour_109 : decode cX0_flour 109 = .ok (.invokevirtual 47, 3) := by decide +kernel
theorem dX0_flour_112 : decode cX0_flour 112 = .ok (.isub, 1) := by decide +kernel
theorem dX0_flour_113 : decode cX0_flour 113 = .ok (.invokestatic 38, 3) := by decide +kernel
theorem dX0_flour_116 : decode cX0_flour 116 = .ok (.ireturn, 1) := by decide +kernel
theorem dX0_flour_117 : decode cX0_flour 117 = .ok (.iconst 0, 1) := by decide +kernel
theorem dX0_flour_118 : decode cX0_flour 118 = .ok (.iload 4, 2) := by decide +kernel
theorem dX0_flour_120 : decode cX0_flour 120 = .ok (.iload_n 2, 1) := by decide +kernel
theorem dX0_flour_121 : decode cX0_flour 121 = .ok (.imul, 1) := by decide +kernel
theorem dX0_flour_122 : decode cX0_flour 122 = .ok (.iload_n 3, 1) := by decide +kernel
theorem dX0_flour_123 : decode cX0_flour 123 = .ok (.isub, 1) := by decide +kernel
theorem dX0_flour_124 : decode cX0_flour 124 = .ok (.invokestatic 38, 3) := by decide +kernel
theorem dX0_flour_127 : decode cX0_flour 127 = .ok (.ireturn, 1) := by decide +kernel
theorem dX0_litter_0 : decode cX0_litter 0 = .ok (.aload_n 0, 1) := by decide +kernel
theorem dX0_litter_1 : decode cX0_litter 1 = .ok (.iload_n 1, 1) := by decide +kernel
theorem dX0_litter_2 : decode cX0_litter 2 = .ok (.invokevirtual 47, 3) := by decide +kernel
theorem dX0_litter_5 : decode cX0_litter 5 = .ok (.istore_n 2, 1) := by decide +kernel
theorem dX0_litter_6 : decode cX0_litter 6 = .ok (.aload_n 0, 1) := by decide +kernel
theorem dX0_litter_7 : decode cX0_litter 7 = .ok (.getfield 9, 3) := by decide +kernel
theorem dX0_litter_10 : decode cX0_litter 10 = .ok (.iload_n 1, 1) := by decide +kernel
theorem dX0_litter_11 : decode cX0_litter 11 = .ok (.iaload, 1) := by decide +kernel
theorem dX0_litter_12 : decode cX0_litter 12 = .ok (.tableswitch 50 1 5 #[36, 50, 40, 36, 44], 36) := by decide +kernel
theorem dX0_litter_48 : decode cX0_litter 48 = .ok (.iload_n 2, 1) := by decide +kernel
theorem dX0_litter_49 : decode cX0_litter 49 = .ok (.iconst 2, 1) := by decide +kernel
theorem dX0_litter_50 : decode cX0_litter 50 = .ok (.idiv, 1) := by decide +kernel
theorem dX0_litter_51 : decode cX0_litter 51 = .ok (.ireturn, 1) := by decide +kernel
theorem dX0_litter_52 : decode cX0_litter 52 = .ok (.iload_n 2, 1) := by decide +kernel
theorem dX0_litter_53 : decode cX0_litter 53 = .ok (.iconst 3, 1) := by decide +kernel
theorem dX0_litter_54 : decode cX0_litter 54 = .ok (.iadd, 1) := by decide +kernel
theorem dX0_litter_55 : decode cX0_litter 55 = .ok (.ireturn, 1) := by decide +kernel
theorem dX0_litter_56 : decode cX0_litter 56 = .ok (.iconst 2, 1) := by decide +kernel
theorem dX0_litter_57 : decode cX0_litter 57 = .ok (.iload_n 2, 1) := by decide +kernel
theorem dX0_litter_58 : decode cX0_litter 58 = .ok (.iconst 3, 1) := by decide +kernel
theorem dX0_litter_59 : decode cX0_litter 59 = .ok (.iadd, 1) := by decide +kernel
theorem dX0_litter_60 : decode cX0_litter 60 = .ok (.imul, 1) := by decide +kernel
theorem dX0_litter_61 : decode cX0_litter 61 = .ok (.ireturn, 1) := by decide +kernel
theorem dX0_litter_62 : decode cX0_litter 62 = .ok (.iload_n 2, 1) := by decide +kernel
theorem dX0_litter_63 : decode cX0_litter 63 = .ok (.ireturn, 1) := by decide +kernel
theorem dX0_howManyOf_0 : decode cX0_howManyOf 0 = .ok (.iconst 0, 1) := by decide +kernel
theorem dX0_howManyOf_1 : decode cX0_howManyOf 1 = .ok (.istore_n 2, 1) := by decide +kernel
theorem dX0_howManyOf_2 : decode cX0_howManyOf 2 = .ok (.iconst 0, 1) := by decide +kernel
theorem dX0_howManyOf_3 : decode cX0_howManyOf 3 = .ok (.istore_n 3, 1) := by decide +kernel
theorem dX0_howManyOf_4 : decode cX0_howManyOf 4 = .ok (.iload_n 3, 1) := by decide +kernel
theorem dX0_howManyOf_5 : decode cX0_howManyOf 5 = .ok (.aload_n 0, 1) := by decide +kernel
theorem dX0_howManyOf_6 : decode cX0_howManyOf 6 = .ok (.getfield 21, 3) := by decide +kernel
theorem dX0_howManyOf_9 : decode cX0_howManyOf 9 = .ok (.if_icmp .ge 25, 3) := by decide +kernel
theorem dX0_howManyOf_12 : decode cX0_howManyOf 12 = .ok (.aload_n 0, 1) := by decide +kernel
theorem dX0_howManyOf_13 : decode cX0_howManyOf 13 = .ok (.getfield 9, 3) := by decide +kernel
theorem dX0_howManyOf_16 : decode cX0_howManyOf 16 = .ok (.iload_n 3, 1) := by decide +kernel
theorem dX0_howManyOf_17 : decode cX0_howManyOf 17 = .ok (.iaload, 1) := by decide +kernel
theorem dX0_howManyOf_18 : decode cX0_howManyOf 18 = .ok (.iload_n 1, 1) := by decide +kernel
theorem dX0_howManyOf_19 : decode cX0_howManyOf 19 = .ok (.invokestatic 50, 3) := by decide +kernel
theorem dX0_howManyOf_22 : decode cX0_howManyOf 22 = .ok (.ifCond .eq 6, 3) := by decide +kernel
theorem dX0_howManyOf_25 : decode cX0_howManyOf 25 = .ok (.iinc 2 1, 3) := by decide +kernel
theorem dX0_howManyOf_28 : decode cX0_howManyOf 28 = .ok (.iinc 3 1, 3) := by decide +kernel
theorem dX0_howManyOf_31 : decode cX0_howManyOf 31 = .ok (.goto (-27), 3) := by decide +kernel
theorem dX0_howManyOf_34 : decode cX0_howManyOf 34 = .ok (.iload_n 2, 1) := by decide +kernel
theorem dX0_howManyOf_35 : decode cX0_howManyOf 35 = .ok (.ireturn, 1) := by decide +kernel
theorem dX1_init_0 : decode cX1_init 0 = .ok (.aload_n 0, 1) := by decide +kernel
theorem dX1_init_1 : decode cX1_init 1 = .ok (.invokespecial 3, 3) := by decide +kernel
theorem dX1_init_4 : decode cX1_init 4 = .ok (.aload_n 0, 1) := by decide +kernel
theorem dX1_init_5 : decode cX1_init 5 = .ok (.bipush 40, 2) := by decide +kernel
theorem dX1_init_7 : decode cX1_init 7 = .ok (.newarray .int, 2) := by decide +kernel
theorem dX1_init_9 : decode cX1_init 9 = .ok (.putfield 9, 3) := by decide +kernel
theorem dX1_init_12 : decode cX1_init 12 = .ok (.aload_n 0, 1) := by decide +kernel
theorem dX1_init_13 : decode cX1_init 13 = .ok (.bipush 40, 2) := by decide +kernel
theorem dX1_init_15 : decode cX1_init 15 = .ok (.newarray .int, 2) := by decide +kernel
theorem dX1_init_17 : decode cX1_init 17 = .ok (.putfield 15, 3) := by decide +kernel
theorem dX1_init_20 : decode cX1_init 20 = .ok (.aload_n 0, 1) := by decide +kernel
theorem dX1_init_21 : decode cX1_init 21 = .ok (.iconst 0, 1) := by decide +kernel
theorem dX1_init_22 : decode cX1_init 22 = .ok (.putfield 18, 3) := by decide +kernel
theorem dX1_init_25 : decode cX1_init 25 = .ok (.return_, 1) := by decide +kernel
theorem dX1_isFull_0 : decode cX1_isFull 0 = .ok (.aload_n 0, 1) := by decide +kernel
theorem dX1_isFull_1 : decode cX1_isFull 1 = .ok (.getfield 18, 3) := by decide +kernel
theorem dX1_isFull_4 : decode cX1_isFull 4 = .ok (.bipush 40, 2) := by decide +kernel
theorem dX1_isFull_6 : decode cX1_isFull 6 = .ok (.if_icmp .lt 7, 3) := by decide +kernel
theorem dX1_isFull_9 : decode cX1_isFull 9 = .ok (.iconst 1, 1) := by decide +kernel
theorem dX1_isFull_10 : decode cX1_isFull 10 = .ok (.goto 4, 3) := by decide +kernel
theorem dX1_isFull_13 : decode cX1_isFull 13 = .ok (.iconst 0, 1) := by decide +kernel
theorem dX1_isFull_14 : decode cX1_isFull 14 = .ok (.ireturn, 1) := by decide +kernel
theorem dX1_add_0 : decode cX1_add 0 = .ok (.aload_n 0, 1) := by decide +kernel
theorem dX1_add_1 : decode cX1_add 1 = .ok (.invokevirtual 22, 3) := by decide +kernel
theorem dX1_add_4 : decode cX1_add 4 = .ok (.ifCond .ne 33, 3) := by decide +kernel
theorem dX1_add_7 : decode cX1_add 7 = .ok (.aload_n 0, 1) := by decide +kernel
theorem dX1_add_8 : decode cX1_add 8 = .ok (.getfield 9, 3) := by decide +kernel
theorem dX1_add_11 : decode cX1_add 11 = .ok (.aload_n 0, 1) := by decide +kernel
theorem dX1_add_12 : decode cX1_add 12 = .ok (.getfield 18, 3) := by decide +kernel
theorem dX1_add_15 : decode cX1_add 15 = .ok (.iload_n 1, 1) := by decide +kernel
theorem dX1_add_16 : decode cX1_add 16 = .ok (.iastore, 1) := by decide +kernel
theorem dX1_add_17 : decode cX1_add 17 = .ok (.aload_n 0, 1) := by decide +kernel
theorem dX1_add_18 : decode cX1_add 18 = .ok (.getfield 15, 3) := by decide +kernel
theorem dX1_add_21 : decode cX1_add 21 = .ok (.aload_n 0, 1) := by decide +kernel
theorem dX1_add_22 : decode cX1_add 22 = .ok (.getfield 18, 3) := by decide +kernel
theorem dX1_add_25 : decode cX1_add 25 = .ok (.iload_n 2, 1) := by decide +kernel
theorem dX1_add_26 : decode cX1_add 26 = .ok (.iastore, 1) := by decide +kernel
theorem dX1_add_27 : decode cX1_add 27 = .ok (.aload_n 0, 1) := by decide +kernel
theorem dX1_add_28 : decode cX1_add 28 = .ok (.dup, 1) := by decide +kernel
theorem dX1_add_29 : decode cX1_add 29 = .ok (.getfield 18, 3) := by decide +kernel
theorem dX1_add_32 : decode cX1_add 32 = .ok (.iconst 1, 1) := by decide +kernel
theorem dX1_add_33 : decode cX1_add 33 = .ok (.iadd, 1) := by decide +kernel
theorem dX1_add_34 : decode cX1_add 34 = .ok (.putfield 18, 3) := by decide +kernel
theorem dX1_add_37 : decode cX1_add 37 = .ok (.return_, 1) := by decide +kernel
theorem dX1_copyOf_0 : decode cX1_copyOf 0 = .ok (.aload_n 0, 1) := by decide +kernel
theorem dX1_copyOf_1 : decode cX1_copyOf 1 = .ok (.aload_n 1, 1) := by decide +kernel
theorem dX1_copyOf_2 : decode cX1_copyOf 2 = .ok (.getfield 18, 3) := by decide +kernel
theorem dX1_copyOf_5 : decode cX1_copyOf 5 = .ok (.putfield 18, 3) := by decide +kernel
theorem dX1_copyOf_8 : decode cX1_copyOf 8 = .ok (.iconst 0, 1) := by decide +kernel
theorem dX1_copyOf_9 : decode cX1_copyOf 9 = .ok (.istore_n 2, 1) := by decide +kernel
theorem dX1_copyOf_10 : decode cX1_copyOf 10 = .ok (.iload_n 2, 1) := by decide +kernel
theorem dX1_copyOf_11 : decode cX1_copyOf 11 = .ok (.aload_n 0, 1) := by decide +kernel
theorem dX1_copyOf_12 : decode cX1_copyOf 12 = .ok (.getfield 18, 3) := by decide +kernel
theorem dX1_copyOf_15 : decode cX1_copyOf 15 = .ok (.if_icmp .ge 33, 3) := by decide +kernel
theorem dX1_copyOf_18 : decode cX1_copyOf 18 = .ok (.aload_n 0, 1) := by decide +kernel
theorem dX1_copyOf_19 : decode cX1_copyOf 19 = .ok (.getfield 9, 3) := by decide +kernel
theorem dX1_copyOf_22 : decode cX1_copyOf 22 = .ok (.iload_n 2, 1) := by decide +kernel
theorem dX1_copyOf_23 : decode cX1_copyOf 23 = .ok (.aload_n 1, 1) := by decide +kernel
theorem dX1_copyOf_24 : decode cX1_copyOf 24 = .ok (.getfield 9, 3) := by decide +kernel
theorem dX1_copyOf_27 : decode cX1_copyOf 27 = .ok (.iload_n 2, 1) := by decide +kernel
theorem dX1_copyOf_28 : decode cX1_copyOf 28 = .ok (.iaload, 1) := by decide +kernel
theorem dX1_copyOf_29 : decode cX1_copyOf 29 = .ok (.iastore, 1) := by decide +kernel
theorem dX1_copyOf_30 : decode cX1_copyOf 30 = .ok (.aload_n 0, 1) := by decide +kernel
theorem dX1_copyOf_31 : decode cX1_copyOf 31 = .ok (.getfield 15, 3) := by decide +kernel
theorem dX1_copyOf_34 : decode cX1_copyOf 34 = .ok (.iload_n 2, 1) := by decide +kernel
theorem dX1_copyOf_35 : decode cX1_copyOf 35 = .ok (.aload_n 1, 1) := by decide +kernel
theorem dX1_copyOf_36 : decode cX1_copyOf 36 = .ok (.getfield 15, 3) := by decide +kernel
theorem dX1_copyOf_39 : decode cX1_copyOf 39 = .ok (.iload_n 2, 1) := by decide +kernel
theorem dX1_copyOf_40 : decode cX1_copyOf 40 = .ok (.iaload, 1) := by decide +kernel
theorem dX1_copyOf_41 : decode cX1_copyOf 41 = .ok (.iastore, 1) := by decide +kernel
theorem dX1_copyOf_42 : decode cX1_copyOf 42 = .ok (.iinc 2 1, 3) := by decide +kernel
theorem dX1_copyOf_45 : decode cX1_copyOf 45 = .ok (.goto (-35), 3) := by decide +kernel
theorem dX1_copyOf_48 : decode cX1_copyOf 48 = .ok (.return_, 1) := by decide +kernel
theorem dX2_init_0 : decode cX2_init 0 = .ok (.aload_n 0, 1) := by decide +kernel
theorem dX2_init_1 : decode cX2_init 1 = .ok (.invokespecial 3, 3) := by decide +kernel
theorem dX2_init_4 : decode cX2_init 4 = .ok (.aload_n 0, 1) := by decide +kernel
theorem dX2_init_5 : decode cX2_init 5 = .ok (.bipush 60, 2) := by decide +kernel
theorem dX2_init_7 : decode cX2_init 7 = .ok (.newarray .int, 2) := by decide +kernel
theorem dX2_init_9 : decode cX2_init 9 = .ok (.putfield 9, 3) := by decide +kernel
theorem dX2_init_12 : decode cX2_init 12 = .ok (.aload_n 0, 1) := by decide +kernel
theorem dX2_init_13 : decode cX2_init 13 = .ok (.iconst (-1), 1) := by decide +kernel
theorem dX2_init_14 : decode cX2_init 14 = .ok (.putfield 15, 3) := by decide +kernel
theorem dX2_init_17 : decode cX2_init 17 = .ok (.return_, 1) := by decide +kernel
theorem dX2_isThere_0 : decode cX2_isThere 0 = .ok (.aload_n 0, 1) := by decide +kernel
theorem dX2_isThere_1 : decode cX2_isThere 1 = .ok (.getfield 15, 3) := by decide +kernel
theorem dX2_isThere_4 : decode cX2_isThere 4 = .ok (.ifCond .lt 7, 3) := by decide +kernel
theorem dX2_isThere_7 : decode cX2_isThere 7 = .ok (.iconst 1, 1) := by decide +kernel
theorem dX2_isThere_8 : decode cX2_isThere 8 = .ok (.goto 4, 3) := by decide +kernel
theorem dX2_isThere_11 : decode cX2_isThere 11 = .ok (.iconst 0, 1) := by decide +kernel
theorem dX2_isThere_12 : decode cX2_isThere 12 = .ok (.ireturn, 1) := by decide +kernel
theorem dX2_make_0 : decode cX2_make 0 = .ok (.aload_n 0, 1) := by decide +kernel
theorem dX2_make_1 : decode cX2_make 1 = .ok (.iload_n 1, 1) := by decide +kernel
theorem dX2_make_2 : decode cX2_make 2 = .ok (.putfield 15, 3) := by decide +kernel
theorem dX2_make_5 : decode cX2_make 5 = .ok (.iconst 0, 1) := by decide +kernel
theorem dX2_make_6 : decode cX2_make 6 = .ok (.istore_n 3, 1) := by decide +kernel
theorem dX2_make_7 : decode cX2_make 7 = .ok (.iload_n 3, 1) := by decide +kernel
theorem dX2_make_8 : decode cX2_make 8 = .ok (.iload_n 1, 1) := by decide +kernel
theorem dX2_make_9 : decode cX2_make 9 = .ok (.if_icmp .ge 22, 3) := by decide +kernel
theorem dX2_make_12 : decode cX2_make 12 = .ok (.iload_n 3, 1) := by decide +kernel
theorem dX2_make_13 : decode cX2_make 13 = .ok (.bipush 60, 2) := by decide +kernel
theorem dX2_make_15 : decode cX2_make 15 = .ok (.if_icmp .ge 16, 3) := by decide +kernel
theorem dX2_make_18 : decode cX2_make 18 = .ok (.aload_n 0, 1) := by decide +kernel
theorem dX2_make_19 : decode cX2_make 19 = .ok (.getfield 9, 3) := by decide +kernel
theorem dX2_make_22 : decode cX2_make 22 = .ok (.iload_n 3, 1) := by decide +kernel
theorem dX2_make_23 : decode cX2_make 23 = .ok (.iload_n 2, 1) := by decide +kernel
theorem dX2_make_24 : decode cX2_make 24 = .ok (.iastore, 1) := by decide +kernel
theorem dX2_make_25 : decode cX2_make 25 = .ok (.iinc 3 1, 3) := by decide +kernel
theorem dX2_make_28 : decode cX2_make 28 = .ok (.goto (-21), 3) := by decide +kernel
theorem dX2_make_31 : decode cX2_make 31 = .ok (.return_, 1) := by decide +kernel
theorem dX2_hasFrom_0 : decode cX2_hasFrom 0 = .ok (.iconst 0, 1) := by decide +kernel
theorem dX2_hasFrom_1 : decode cX2_hasFrom 1 = .ok (.iload_n 1, 1) := by decide +kernel
theorem dX2_hasFrom_2 : decode cX2_hasFrom 2 = .ok (.if_icmp .gt 17, 3) := by decide +kernel
theorem dX2_hasFrom_5 : decode cX2_hasFrom 5 = .ok (.iload_n 1, 1) := by decide +kernel
theorem dX2_hasFrom_6 : decode cX2_hasFrom 6 = .ok (.aload_n 0, 1) := by decide +kernel
theorem dX2_hasFrom_7 : decode cX2_hasFrom 7 = .ok (.getfield 15, 3) := by decide +kernel
theorem dX2_hasFrom_10 : decode cX2_hasFrom 10 = .ok (.iload_n 2, 1) := by decide +kernel
theorem dX2_hasFrom_11 : decode cX2_hasFrom 11 = .ok (.isub, 1) := by decide +kernel
theorem dX2_hasFrom_12 : decode cX2_hasFrom 12 = .ok (.if_icmp .gt 7, 3) := by decide +kernel
theorem dX2_hasFrom_15 : decode cX2_hasFrom 15 = .ok (.iconst 1, 1) := by decide +kernel
theorem dX2_hasFrom_16 : decode cX2_hasFrom 16 = .ok (.goto 4, 3) := by decide +kernel
theorem dX2_hasFrom_19 : decode cX2_hasFrom 19 = .ok (.iconst 0, 1) := by decide +kernel
theorem dX2_hasFrom_20 : decode cX2_hasFrom 20 = .ok (.ireturn, 1) := by decide +kernel
theorem dX2_sum_0 : decode cX2_sum 0 = .ok (.lconst 0, 1) := by decide +kernel
theorem dX2_sum_1 : decode cX2_sum 1 = .ok (.lstore_n 1, 1) := by decide +kernel
theorem dX2_sum_2 : decode cX2_sum 2 = .ok (.iconst 0, 1) := by decide +kernel
theorem dX2_sum_3 : decode cX2_sum 3 = .ok (.istore_n 3, 1) := by decide +kernel
theorem dX2_sum_4 : decode cX2_sum 4 = .ok (.iload_n 3, 1) := by decide +kernel
theorem dX2_sum_5 : decode cX2_sum 5 = .ok (.aload_n 0, 1) := by decide +kernel
theorem dX2_sum_6 : decode cX2_sum 6 = .ok (.getfield 15, 3) := by decide +kernel
theorem dX2_sum_9 : decode cX2_sum 9 = .ok (.if_icmp .ge 19, 3) := by decide +kernel
theorem dX2_sum_12 : decode cX2_sum 12 = .ok (.lload_n 1, 1) := by decide +kernel
theorem dX2_sum_13 : decode cX2_sum 13 = .ok (.aload_n 0, 1) := by decide +kernel
theorem dX2_sum_14 : decode cX2_sum 14 = .ok (.getfield 9, 3) := by decide +kernel
theorem dX2_sum_17 : decode cX2_sum 17 = .ok (.iload_n 3, 1) := by decide +kernel
theorem dX2_sum_18 : decode cX2_sum 18 = .ok (.iaload, 1) := by decide +kernel
theorem dX2_sum_19 : decode cX2_sum 19 = .ok (.i2l, 1) := by decide +kernel
theorem dX2_sum_20 : decode cX2_sum 20 = .ok (.ladd, 1) := by decide +kernel
theorem dX2_sum_21 : decode cX2_sum 21 = .ok (.lstore_n 1, 1) := by decide +kernel
theorem dX2_sum_22 : decode cX2_sum 22 = .ok (.iinc 3 1, 3) := by decide +kernel
theorem dX2_sum_25 : decode cX2_sum 25 = .ok (.goto (-21), 3) := by decide +kernel
theorem dX2_sum_28 : decode cX2_sum 28 = .ok (.lload_n 1, 1) := by decide +kernel
theorem dX2_sum_29 : decode cX2_sum 29 = .ok (.lreturn, 1) := by decide +kernel
theorem dX2_mixedInto_0 : decode cX2_mixedInto 0 = .ok (.ldc2_w 19, 3) := by decide +kernel
theorem dX2_mixedInto_3 : decode cX2_mixedInto 3 = .ok (.lload_n 1, 1) := by decide +kernel
theorem dX2_mixedInto_4 : decode cX2_mixedInto 4 = .ok (.lmul, 1) := by decide +kernel
theorem dX2_mixedInto_5 : decode cX2_mixedInto 5 = .ok (.aload_n 0, 1) := by decide +kernel
theorem dX2_mixedInto_6 : decode cX2_mixedInto 6 = .ok (.getfield 15, 3) := by decide +kernel
theorem dX2_mixedInto_9 : decode cX2_mixedInto 9 = .ok (.i2l, 1) := by decide +kernel
theorem dX2_mixedInto_10 : decode cX2_mixedInto 10 = .ok (.ladd, 1) := by decide +kernel
theorem dX2_mixedInto_11 : decode cX2_mixedInto 11 = .ok (.lstore_n 3, 1) := by decide +kernel
theorem dX2_mixedInto_12 : decode cX2_mixedInto 12 = .ok (.iconst 0, 1) := by decide +kernel
theorem dX2_mixedInto_13 : decode cX2_mixedInto 13 = .ok (.istore 5, 2) := by decide +kernel
theorem dX2_mixedInto_15 : decode cX2_mixedInto 15 = .ok (.iload 5, 2) := by decide +kernel
theorem dX2_mixedInto_17 : decode cX2_mixedInto 17 = .ok (.aload_n 0, 1) := by decide +kernel
theorem dX2_mixedInto_18 : decode cX2_mixedInto 18 = .ok (.getfield 15, 3) := by decide +kernel
theorem dX2_mixedInto_21 : decode cX2_mixedInto 21 = .ok (.if_icmp .ge 24, 3) := by decide +kernel
theorem dX2_mixedInto_24 : decode cX2_mixedInto 24 = .ok (.ldc2_w 19, 3) := by decide +kernel
theorem dX2_mixedInto_27 : decode cX2_mixedInto 27 = .ok (.lload_n 3, 1) := by decide +kernel
theorem dX2_mixedInto_28 : decode cX2_mixedInto 28 = .ok (.lmul, 1) := by decide +kernel
theorem dX2_mixedInto_29 : decode cX2_mixedInto 29 = .ok (.aload_n 0, 1) := by decide +kernel
theorem dX2_mixedInto_30 : decode cX2_mixedInto 30 = .ok (.getfield 9, 3) := by decide +kernel
theorem dX2_mixedInto_33 : decode cX2_mixedInto 33 = .ok (.iload 5, 2) := by decide +kernel
theorem dX2_mixedInto_35 : decode cX2_mixedInto 35 = .ok (.iaload, 1) := by decide +kernel
theorem dX2_mixedInto_36 : decode cX2_mixedInto 36 = .ok (.i2l, 1) := by decide +kernel
theorem dX2_mixedInto_37 : decode cX2_mixedInto 37 = .ok (.ladd, 1) := by decide +kernel
theorem dX2_mixedInto_38 : decode cX2_mixedInto 38 = .ok (.lstore_n 3, 1) := by decide +kernel
theorem dX2_mixedInto_39 : decode cX2_mixedInto 39 = .ok (.iinc 5 1, 3) := by decide +kernel
theorem dX2_mixedInto_42 : decode cX2_mixedInto 42 = .ok (.goto (-27), 3) := by decide +kernel
theorem dX2_mixedInto_45 : decode cX2_mixedInto 45 = .ok (.lload_n 3, 1) := by decide +kernel
theorem dX2_mixedInto_46 : decode cX2_mixedInto 46 = .ok (.lreturn, 1) := by decide +kernel
theorem dX3_init_0 : decode cX3_init 0 = .ok (.aload_n 0, 1) := by decide +kernel
theorem dX3_init_1 : decode cX3_init 1 = .ok (.invokespecial 3, 3) := by decide +kernel
theorem dX3_init_4 : decode cX3_init 4 = .ok (.aload_n 0, 1) := by decide +kernel
theorem dX3_init_5 : decode cX3_init 5 = .ok (.iconst 0, 1) := by decide +kernel
theorem dX3_init_6 : decode cX3_init 6 = .ok (.putfield 9, 3) := by decide +kernel
theorem dX3_init_9 : decode cX3_init 9 = .ok (.aload_n 0, 1) := by decide +kernel
theorem dX3_init_10 : decode cX3_init 10 = .ok (.iconst 0, 1) := by decide +kernel
theorem dX3_init_11 : decode cX3_init 11 = .ok (.putfield 15, 3) := by decide +kernel
theorem dX3_init_14 : decode cX3_init 14 = .ok (.aload_n 0, 1) := by decide +kernel
theorem dX3_init_15 : decode cX3_init 15 = .ok (.iconst 0, 1) := by decide +kernel
theorem dX3_init_16 : decode cX3_init 16 = .ok (.putfield 18, 3) := by decide +kernel
theorem dX3_init_19 : decode cX3_init 19 = .ok (.aload_n 0, 1) := by decide +kernel
theorem dX3_init_20 : decode cX3_init 20 = .ok (.iconst 0, 1) := by decide +kernel
theorem dX3_init_21 : decode cX3_init 21 = .ok (.putfield 21, 3) := by decide +kernel
theorem dX3_init_24 : decode cX3_init 24 = .ok (.aload_n 0, 1) := by decide +kernel
theorem dX3_init_25 : decode cX3_init 25 = .ok (.iconst 0, 1) := by decide +kernel
theorem dX3_init_26 : decode cX3_init 26 = .ok (.putfield 25, 3) := by decide +kernel
theorem dX3_init_29 : decode cX3_init 29 = .ok (.return_, 1) := by decide +kernel
theorem dX3_start_0 : decode cX3_start 0 = .ok (.aload_n 0, 1) := by decide +kernel
theorem dX3_start_1 : decode cX3_start 1 = .ok (.iconst 0, 1) := by decide +kernel
theorem dX3_start_2 : decode cX3_start 2 = .ok (.putfield 9, 3) := by decide +kernel
theorem dX3_start_5 : decode cX3_start 5 = .ok (.aload_n 0, 1) := by decide +kernel
theorem dX3_start_6 : decode cX3_start 6 = .ok (.iconst 2, 1) := by decide +kernel
theorem dX3_start_7 : decode cX3_start 7 = .ok (.putfield 15, 3) := by decide +kernel
theorem dX3_start_10 : decode cX3_start 10 = .ok (.aload_n 0, 1) := by decide +kernel
theorem dX3_start_11 : decode cX3_start 11 = .ok (.iconst 0, 1) := by decide +kernel
theorem dX3_start_12 : decode cX3_start 12 = .ok (.putfield 18, 3) := by decide +kernel
theorem dX3_start_15 : decode cX3_start 15 = .ok (.aload_n 0, 1) := by decide +kernel
theorem dX3_start_16 : decode cX3_start 16 = .ok (.iconst 0, 1) := by decide +kernel
theorem dX3_start_17 : decode cX3_start 17 = .ok (.putfield 21, 3) := by decide +kernel
theorem dX3_start_20 : decode cX3_start 20 = .ok (.aload_n 0, 1) := by decide +kernel
theorem dX3_start_21 : decode cX3_start 21 = .ok (.iconst 0, 1) := by decide +kernel
theorem dX3_start_22 : decode cX3_start 22 = .ok (.putfield 25, 3) := by decide +kernel
theorem dX3_start_25 : decode cX3_start 25 = .ok (.return_, 1) := by decide +kernel
theorem dX3_copyOf_0 : decode cX3_copyOf 0 = .ok (.aload_n 0, 1) := by decide +kernel
theorem dX3_copyOf_1 : decode cX3_copyOf 1 = .ok (.aload_n 1, 1) := by decide +kernel
theorem dX3_copyOf_2 : decode cX3_copyOf 2 = .ok (.getfield 9, 3) := by decide +kernel
theorem dX3_copyOf_5 : decode cX3_copyOf 5 = .ok (.putfield 9, 3) := by decide +kernel
theorem dX3_copyOf_8 : decode cX3_copyOf 8 = .ok (.aload_n 0, 1) := by decide +kernel
theorem dX3_copyOf_9 : decode cX3_copyOf 9 = .ok (.aload_n 1, 1) := by decide +kernel
theorem dX3_copyOf_10 : decode cX3_copyOf 10 = .ok (.getfield 15, 3) := by decide +kernel
theorem dX3_copyOf_13 : decode cX3_copyOf 13 = .ok (.putfield 15, 3) := by decide +kernel
theorem dX3_copyOf_16 : decode cX3_copyOf 16 = .ok (.aload_n 0, 1) := by decide +kernel
theorem dX3_copyOf_17 : decode cX3_copyOf 17 = .ok (.aload_n 1, 1) := by decide +kernel
theorem dX3_copyOf_18 : decode cX3_copyOf 18 = .ok (.getfield 18, 3) := by decide +kernel
theorem dX3_copyOf_21 : decode cX3_copyOf 21 = .ok (.putfield 18, 3) := by decide +kernel
theorem dX3_copyOf_24 : decode cX3_copyOf 24 = .ok (.aload_n 0, 1) := by decide +kernel
theorem dX3_copyOf_25 : decode cX3_copyOf 25 = .ok (.aload_n 1, 1) := by decide +kernel
theorem dX3_copyOf_26 : decode cX3_copyOf 26 = .ok (.getfield 21, 3) := by decide +kernel
theorem dX3_copyOf_29 : decode cX3_copyOf 29 = .ok (.putfield 21, 3) := by decide +kernel
theorem dX3_copyOf_32 : decode cX3_copyOf 32 = .ok (.aload_n 0, 1) := by decide +kernel
theorem dX3_copyOf_33 : decode cX3_copyOf 33 = .ok (.aload_n 1, 1) := by decide +kernel
theorem dX3_copyOf_34 : decode cX3_copyOf 34 = .ok (.getfield 25, 3) := by decide +kernel
theorem dX3_copyOf_37 : decode cX3_copyOf 37 = .ok (.putfield 25, 3) := by decide +kernel
theorem dX3_copyOf_40 : decode cX3_copyOf 40 = .ok (.return_, 1) := by decide +kernel
theorem dX3_goRound_0 : decode cX3_goRound 0 = .ok (.aload_n 1, 1) := by decide +kernel
theorem dX3_goRound_1 : decode cX3_goRound 1 = .ok (.aload_n 0, 1) := by decide +kernel
theorem dX3_goRound_2 : decode cX3_goRound 2 = .ok (.getfield 9, 3) := by decide +kernel
theorem dX3_goRound_5 : decode cX3_goRound 5 = .ok (.aload_n 0, 1) := by decide +kernel
theorem dX3_goRound_6 : decode cX3_goRound 6 = .ok (.getfield 15, 3) := by decide +kernel
theorem dX3_goRound_9 : decode cX3_goRound 9 = .ok (.aload_n 0, 1) := by decide +kernel
theorem dX3_goRound_10 : decode cX3_goRound 10 = .ok (.getfield 18, 3) := by decide +kernel
theorem dX3_goRound_13 : decode cX3_goRound 13 = .ok (.invokevirtual 28, 3) := by decide +kernel
theorem dX3_goRound_16 : decode cX3_goRound 16 = .ok (.istore_n 2, 1) := by decide +kernel
theorem dX3_goRound_17 : decode cX3_goRound 17 = .ok (.aload_n 0, 1) := by decide +kernel
theorem dX3_goRound_18 : decode cX3_goRound 18 = .ok (.dup, 1) := by decide +kernel
theorem dX3_goRound_19 : decode cX3_goRound 19 = .ok (.getfield 25, 3) := by decide +kernel
theorem dX3_goRound_22 : decode cX3_goRound 22 = .ok (.iload_n 2, 1) := by decide +kernel
theorem dX3_goRound_23 : decode cX3_goRound 23 = .ok (.iadd, 1) := by decide +kernel
theorem dX3_goRound_24 : decode cX3_goRound 24 = .ok (.putfield 25, 3) := by decide +kernel
theorem dX3_goRound_27 : decode cX3_goRound 27 = .ok (.aload_n 0, 1) := by decide +kernel
theorem dX3_goRound_28 : decode cX3_goRound 28 = .ok (.bipush 40, 2) := by decide +kernel
theorem dX3_goRound_30 : decode cX3_goRound 30 = .ok (.aload_n 0, 1) := by decide +kernel
theorem dX3_goRound_31 : decode cX3_goRound 31 = .ok (.getfield 18, 3) := by decide +kernel
theorem dX3_goRound_34 : decode cX3_goRound 34 = .ok (.aload_n 1, 1) := by decide +kernel
theorem dX3_goRound_35 : decode cX3_goRound 35 = .ok (.aload_n 0, 1) := by decide +kernel
theorem dX3_goRound_36 : decode cX3_goRound 36 = .ok (.getfield 9, 3) := by decide +kernel
theorem dX3_goRound_39 : decode cX3_goRound 39 = .ok (.invokevirtual 34, 3) := by decide +kernel
theorem dX3_goRound_42 : decode cX3_goRound 42 = .ok (.iadd, 1) := by decide +kernel
theorem dX3_goRound_43 : decode cX3_goRound 43 = .ok (.invokestatic 38, 3) := by decide +kernel
theorem dX3_goRound_46 : decode cX3_goRound 46 = .ok (.putfield 18, 3) := by decide +kernel
theorem dX3_goRound_49 : decode cX3_goRound 49 = .ok (.iload_n 2, 1) := by decide +kernel
theorem dX3_goRound_50 : decode cX3_goRound 50 = .ok (.ifCond .ne 7, 3) := by decide +kernel
theorem dX3_goRound_53 : decode cX3_goRound 53 = .ok (.aload_n 0, 1) := by decide +kernel
theorem dX3_goRound_54 : decode cX3_goRound 54 = .ok (.invokevirtual 44, 3) := by decide +kernel
theorem dX3_goRound_57 : decode cX3_goRound 57 = .ok (.aload_n 0, 1) := by decide +kernel
theorem dX3_goRound_58 : decode cX3_goRound 58 = .ok (.aload_n 1, 1) := by decide +kernel
theorem dX3_goRound_59 : decode cX3_goRound 59 = .ok (.getfield 47, 3) := by decide +kernel
theorem dX3_goRound_62 : decode cX3_goRound 62 = .ok (.invokevirtual 50, 3) := by decide +kernel
theorem dX3_goRound_65 : decode cX3_goRound 65 = .ok (.iload_n 2, 1) := by decide +kernel
theorem dX3_goRound_66 : decode cX3_goRound 66 = .ok (.ireturn, 1) := by decide +kernel
theorem dX3_turn_0 : decode cX3_turn 0 = .ok (.aload_n 0, 1) := by decide +kernel
theorem dX3_turn_1 : decode cX3_turn 1 = .ok (.aload_n 0, 1) := by decide +kernel
theorem dX3_turn_2 : decode cX3_turn 2 = .ok (.getfield 21, 3) := by decide +kernel
theorem dX3_turn_5 : decode cX3_turn 5 = .ok (.ifCond .ne 7, 3) := by decide +kernel
theorem dX3_turn_8 : decode cX3_turn 8 = .ok (.iconst 1, 1) := by decide +kernel
theorem dX3_turn_9 : decode cX3_turn 9 = .ok (.goto 4, 3) := by decide +kernel
theorem dX3_turn_12 : decode cX3_turn 12 = .ok (.iconst 0, 1) := by decide +kernel
theorem dX3_turn_13 : decode cX3_turn 13 = .ok (.putfield 21, 3) := by decide +kernel
theorem dX3_turn_16 : decode cX3_turn 16 = .ok (.return_, 1) := by decide +kernel
theorem dX3_pass_0 : decode cX3_pass 0 = .ok (.aload_n 0, 1) := by decide +kernel
theorem dX3_pass_1 : decode cX3_pass 1 = .ok (.getfield 21, 3) := by decide +kernel
theorem dX3_pass_4 : decode cX3_pass 4 = .ok (.ifCond .eq 29, 3) := by decide +kernel
theorem dX3_pass_7 : decode cX3_pass 7 = .ok (.aload_n 0, 1) := by decide +kernel
theorem dX3_pass_8 : decode cX3_pass 8 = .ok (.aload_n 0, 1) := by decide +kernel
theorem dX3_pass_9 : decode cX3_pass 9 = .ok (.getfield 9, 3) := by decide +kernel
theorem dX3_pass_12 : decode cX3_pass 12 = .ok (.ifCond .le 12, 3) := by decide +kernel
theorem dX3_pass_15 : decode cX3_pass 15 = .ok (.aload_n 0, 1) := by decide +kernel
theorem dX3_pass_16 : decode cX3_pass 16 = .ok (.getfield 9, 3) := by decide +kernel
theorem dX3_pass_19 : decode cX3_pass 19 = .ok (.iconst 1, 1) := by decide +kernel
theorem dX3_pass_20 : decode cX3_pass 20 = .ok (.isub, 1) := by decide +kernel
theorem dX3_pass_21 : decode cX3_pass 21 = .ok (.goto 6, 3) := by decide +kernel
theorem dX3_pass_24 : decode cX3_pass 24 = .ok (.iload_n 1, 1) := by decide +kernel
theorem dX3_pass_25 : decode cX3_pass 25 = .ok (.iconst 1, 1) := by decide +kernel
theorem dX3_pass_26 : decode cX3_pass 26 = .ok (.isub, 1) := by decide +kernel
theorem dX3_pass_27 : decode cX3_pass 27 = .ok (.putfield 9, 3) := by decide +kernel
theorem dX3_pass_30 : decode cX3_pass 30 = .ok (.goto 27, 3) := by decide +kernel
theorem dX3_pass_33 : decode cX3_pass 33 = .ok (.aload_n 0, 1) := by decide +kernel
theorem dX3_pass_34 : decode cX3_pass 34 = .ok (.aload_n 0, 1) := by decide +kernel
theorem dX3_pass_35 : decode cX3_pass 35 = .ok (.getfield 9, 3) := by decide +kernel
theorem dX3_pass_38 : decode cX3_pass 38 = .ok (.iload_n 1, 1) := by decide +kernel
theorem dX3_pass_39 : decode cX3_pass 39 = .ok (.iconst 1, 1) := by decide +kernel
theorem dX3_pass_40 : decode cX3_pass 40 = .ok (.isub, 1) := by decide +kernel
theorem dX3_pass_41 : decode cX3_pass 41 = .ok (.if_icmp .ge 12, 3) := by decide +kernel
theorem dX3_pass_44 : decode cX3_pass 44 = .ok (.aload_n 0, 1) := by decide +kernel
theorem dX3_pass_45 : decode cX3_pass 45 = .ok (.getfield 9, 3) := by decide +kernel
theorem dX3_pass_48 : decode cX3_pass 48 = .ok (.iconst 1, 1) := by decide +kernel
theorem dX3_pass_49 : decode cX3_pass 49 = .ok (.iadd, 1) := by decide +kernel
theorem dX3_pass_50 : decode cX3_pass 50 = .ok (.goto 4, 3) := by decide +kernel
theorem dX3_pass_53 : decode cX3_pass 53 = .ok (.iconst 0, 1) := by decide +kernel
theorem dX3_pass_54 : decode cX3_pass 54 = .ok (.putfield 9, 3) := by decide +kernel
theorem dX3_pass_57 : decode cX3_pass 57 = .ok (.return_, 1) := by decide +kernel
theorem dJ6_bitCount_0f7a4_0 : decode cJ6_bitCount_0f7a4 0 = .ok (.iload_n 0, 1) := by decide +kernel
theorem dJ6_bitCount_0f7a4_1 : decode cJ6_bitCount_0f7a4 1 = .ok (.iload_n 0, 1) := by decide +kernel
theorem dJ6_bitCount_0f7a4_2 : decode cJ6_bitCount_0f7a4 2 = .ok (.iconst 1, 1) := by decide +kernel
theorem dJ6_bitCount_0f7a4_3 : decode cJ6_bitCount_0f7a4 3 = .ok (.iushr, 1) := by decide +kernel
theorem dJ6_bitCount_0f7a4_4 : decode cJ6_bitCount_0f7a4 4 = .ok (.ldc_w 265, 3) := by decide +kernel
theorem dJ6_bitCount_0f7a4_7 : decode cJ6_bitCount_0f7a4 7 = .ok (.iand, 1) := by decide +kernel
theorem dJ6_bitCount_0f7a4_8 : decode cJ6_bitCount_0f7a4 8 = .ok (.isub, 1) := by decide +kernel
theorem dJ6_bitCount_0f7a4_9 : decode cJ6_bitCount_0f7a4 9 = .ok (.istore_n 0, 1) := by decide +kernel
theorem dJ6_bitCount_0f7a4_10 : decode cJ6_bitCount_0f7a4 10 = .ok (.iload_n 0, 1) := by decide +kernel
theorem dJ6_bitCount_0f7a4_11 : decode cJ6_bitCount_0f7a4 11 = .ok (.ldc_w 266, 3) := by decide +kernel
theorem dJ6_bitCount_0f7a4_14 : decode cJ6_bitCount_0f7a4 14 = .ok (.iand, 1) := by decide +kernel
theorem dJ6_bitCount_0f7a4_15 : decode cJ6_bitCount_0f7a4 15 = .ok (.iload_n 0, 1) := by decide +kernel
theorem dJ6_bitCount_0f7a4_16 : decode cJ6_bitCount_0f7a4 16 = .ok (.iconst 2, 1) := by decide +kernel
theorem dJ6_bitCount_0f7a4_17 : decode cJ6_bitCount_0f7a4 17 = .ok (.iushr, 1) := by decide +kernel
theorem dJ6_bitCount_0f7a4_18 : decode cJ6_bitCount_0f7a4 18 = .ok (.ldc_w 266, 3) := by decide +kernel
theorem dJ6_bitCount_0f7a4_21 : decode cJ6_bitCount_0f7a4 21 = .ok (.iand, 1) := by decide +kernel
theorem dJ6_bitCount_0f7a4_22 : decode cJ6_bitCount_0f7a4 22 = .ok (.iadd, 1) := by decide +kernel
theorem dJ6_bitCount_0f7a4_23 : decode cJ6_bitCount_0f7a4 23 = .ok (.istore_n 0, 1) := by decide +kernel
theorem dJ6_bitCount_0f7a4_24 : decode cJ6_bitCount_0f7a4 24 = .ok (.iload_n 0, 1) := by decide +kernel
theorem dJ6_bitCount_0f7a4_25 : decode cJ6_bitCount_0f7a4 25 = .ok (.iload_n 0, 1) := by decide +kernel
theorem dJ6_bitCount_0f7a4_26 : decode cJ6_bitCount_0f7a4 26 = .ok (.iconst 4, 1) := by decide +kernel
theorem dJ6_bitCount_0f7a4_27 : decode cJ6_bitCount_0f7a4 27 = .ok (.iushr, 1) := by decide +kernel
theorem dJ6_bitCount_0f7a4_28 : decode cJ6_bitCount_0f7a4 28 = .ok (.iadd, 1) := by decide +kernel
theorem dJ6_bitCount_0f7a4_29 : decode cJ6_bitCount_0f7a4 29 = .ok (.ldc_w 267, 3) := by decide +kernel
theorem dJ6_bitCount_0f7a4_32 : decode cJ6_bitCount_0f7a4 32 = .ok (.iand, 1) := by decide +kernel
theorem dJ6_bitCount_0f7a4_33 : decode cJ6_bitCount_0f7a4 33 = .ok (.istore_n 0, 1) := by decide +kernel
theorem dJ6_bitCount_0f7a4_34 : decode cJ6_bitCount_0f7a4 34 = .ok (.iload_n 0, 1) := by decide +kernel
theorem dJ6_bitCount_0f7a4_35 : decode cJ6_bitCount_0f7a4 35 = .ok (.iload_n 0, 1) := by decide +kernel
theorem dJ6_bitCount_0f7a4_36 : decode cJ6_bitCount_0f7a4 36 = .ok (.bipush 8, 2) := by decide +kernel
theorem dJ6_bitCount_0f7a4_38 : decode cJ6_bitCount_0f7a4 38 = .ok (.iushr, 1) := by decide +kernel
theorem dJ6_bitCount_0f7a4_39 : decode cJ6_bitCount_0f7a4 39 = .ok (.iadd, 1) := by decide +kernel
theorem dJ6_bitCount_0f7a4_40 : decode cJ6_bitCount_0f7a4 40 = .ok (.istore_n 0, 1) := by decide +kernel
theorem dJ6_bitCount_0f7a4_41 : decode cJ6_bitCount_0f7a4 41 = .ok (.iload_n 0, 1) := by decide +kernel
theorem dJ6_bitCount_0f7a4_42 : decode cJ6_bitCount_0f7a4 42 = .ok (.iload_n 0, 1) := by decide +kernel
theorem dJ6_bitCount_0f7a4_43 : decode cJ6_bitCount_0f7a4 43 = .ok (.bipush 16, 2) := by decide +kernel
theorem dJ6_bitCount_0f7a4_45 : decode cJ6_bitCount_0f7a4 45 = .ok (.iushr, 1) := by decide +kernel
theorem dJ6_bitCount_0f7a4_46 : decode cJ6_bitCount_0f7a4 46 = .ok (.iadd, 1) := by decide +kernel
theorem dJ6_bitCount_0f7a4_47 : decode cJ6_bitCount_0f7a4 47 = .ok (.istore_n 0, 1) := by decide +kernel
theorem dJ6_bitCount_0f7a4_48 : decode cJ6_bitCount_0f7a4 48 = .ok (.iload_n 0, 1) := by decide +kernel
theorem dJ6_bitCount_0f7a4_49 : decode cJ6_bitCount_0f7a4 49 = .ok (.bipush 63, 2) := by decide +kernel
theorem dJ6_bitCount_0f7a4_51 : decode cJ6_bitCount_0f7a4 51 = .ok (.iand, 1) := by decide +kernel
theorem dJ6_bitCount_0f7a4_52 : decode cJ6_bitCount_0f7a4 52 = .ok (.ireturn, 1) := by decide +kernel
end
section
theorem dX4_init_0 : decode cX4_init 0 = .ok (.aload_n 0, 1) := by decide +kernel
theorem dX4_init_1 : decode cX4_init 1 = .ok (.invokespecial 1, 3) := by decide +kernel
theorem dX4_init_4 : decode cX4_init 4 = .ok (.aload_n 0, 1) := by decide +kernel
theorem dX4_init_5 : decode cX4_init 5 = .ok (.bipush 6, 2) := by decide +kernel
theorem dX4_init_7 : decode cX4_init 7 = .ok (.anewarray 9, 3) := by decide +kernel
theorem dX4_init_10 : decode cX4_init 10 = .ok (.putfield 11, 3) := by decide +kernel
theorem dX4_init_13 : decode cX4_init 13 = .ok (.aload_n 0, 1) := by decide +kernel
theorem dX4_init_14 : decode cX4_init 14 = .ok (.iconst 4, 1) := by decide +kernel
theorem dX4_init_15 : decode cX4_init 15 = .ok (.anewarray 9, 3) := by decide +kernel
theorem dX4_init_18 : decode cX4_init 18 = .ok (.putfield 15, 3) := by decide +kernel
theorem dX4_init_21 : decode cX4_init 21 = .ok (.aload_n 0, 1) := by decide +kernel
theorem dX4_init_22 : decode cX4_init 22 = .ok (.new 18, 3) := by decide +kernel
theorem dX4_init_25 : decode cX4_init 25 = .ok (.dup, 1) := by decide +kernel
theorem dX4_init_26 : decode cX4_init 26 = .ok (.invokespecial 20, 3) := by decide +kernel
theorem dX4_init_29 : decode cX4_init 29 = .ok (.putfield 21, 3) := by decide +kernel
theorem dX4_init_32 : decode cX4_init 32 = .ok (.aload_n 0, 1) := by decide +kernel
theorem dX4_init_33 : decode cX4_init 33 = .ok (.new 25, 3) := by decide +kernel
theorem dX4_init_36 : decode cX4_init 36 = .ok (.dup, 1) := by decide +kernel
theorem dX4_init_37 : decode cX4_init 37 = .ok (.invokespecial 27, 3) := by decide +kernel
theorem dX4_init_40 : decode cX4_init 40 = .ok (.putfield 28, 3) := by decide +kernel
theorem dX4_init_43 : decode cX4_init 43 = .ok (.aload_n 0, 1) := by decide +kernel
theorem dX4_init_44 : decode cX4_init 44 = .ok (.new 32, 3) := by decide +kernel
theorem dX4_init_47 : decode cX4_init 47 = .ok (.dup, 1) := by decide +kernel
theorem dX4_init_48 : decode cX4_init 48 = .ok (.invokespecial 34, 3) := by decide +kernel
theorem dX4_init_51 : decode cX4_init 51 = .ok (.putfield 35, 3) := by decide +kernel
theorem dX4_init_54 : decode cX4_init 54 = .ok (.aload_n 0, 1) := by decide +kernel
theorem dX4_init_55 : decode cX4_init 55 = .ok (.iconst 3, 1) := by decide +kernel
theorem dX4_init_56 : decode cX4_init 56 = .ok (.anewarray 32, 3) := by decide +kernel
theorem dX4_init_59 : decode cX4_init 59 = .ok (.putfield 39, 3) := by decide +kernel
theorem dX4_init_62 : decode cX4_init 62 = .ok (.aload_n 0, 1) := by decide +kernel
theorem dX4_init_63 : decode cX4_init 63 = .ok (.new 18, 3) := by decide +kernel
theorem dX4_init_66 : decode cX4_init 66 = .ok (.dup, 1) := by decide +kernel
theorem dX4_init_67 : decode cX4_init 67 = .ok (.invokespecial 20, 3) := by decide +kernel
theorem dX4_init_70 : decode cX4_init 70 = .ok (.putfield 43, 3) := by decide +kernel
theorem dX4_init_73 : decode cX4_init 73 = .ok (.aload_n 0, 1) := by decide +kernel
theorem dX4_init_74 : decode cX4_init 74 = .ok (.new 25, 3) := by decide +kernel
theorem dX4_init_77 : decode cX4_init 77 = .ok (.dup, 1) := by decide +kernel
theorem dX4_init_78 : decode cX4_init 78 = .ok (.invokespecial 27, 3) := by decide +kernel
theorem dX4_init_81 : decode cX4_init 81 = .ok (.putfield 46, 3) := by decide +kernel
theorem dX4_init_84 : decode cX4_init 84 = .ok (.aload_n 0, 1) := by decide +kernel
theorem dX4_init_85 : decode cX4_init 85 = .ok (.iconst 5, 1) := by decide +kernel
theorem dX4_init_86 : decode cX4_init 86 = .ok (.anewarray 25, 3) := by decide +kernel
theorem dX4_init_89 : decode cX4_init 89 = .ok (.putfield 49, 3) := by decide +kernel
theorem dX4_init_92 : decode cX4_init 92 = .ok (.aload_n 0, 1) := by decide +kernel
theorem dX4_init_93 : decode cX4_init 93 = .ok (.iconst 0, 1) := by decide +kernel
theorem dX4_init_94 : decode cX4_init 94 = .ok (.putfield 53, 3) := by decide +kernel
theorem dX4_init_97 : decode cX4_init 97 = .ok (.aload_n 0, 1) := by decide +kernel
theorem dX4_init_98 : decode cX4_init 98 = .ok (.lconst 0, 1) := by decide +kernel
theorem dX4_init_99 : decode cX4_init 99 = .ok (.putfield 57, 3) := by decide +kernel
theorem dX4_init_102 : decode cX4_init 102 = .ok (.aload_n 0, 1) := by decide +kernel
theorem dX4_init_103 : decode cX4_init 103 = .ok (.lconst 1, 1) := by decide +kernel
theorem dX4_init_104 : decode cX4_init 104 = .ok (.putfield 61, 3) := by decide +kernel
theorem dX4_init_107 : decode cX4_init 107 = .ok (.aload_n 0, 1) := by decide +kernel
theorem dX4_init_108 : decode cX4_init 108 = .ok (.iconst 0, 1) := by decide +kernel
theorem dX4_init_109 : decode cX4_init 109 = .ok (.putfield 64, 3) := by decide +kernel
theorem dX4_init_112 : decode cX4_init 112 = .ok (.aload_n 0, 1) := by decide +kernel
theorem dX4_init_113 : decode cX4_init 113 = .ok (.bipush 6, 2) := by decide +kernel
theorem dX4_init_115 : decode cX4_init 115 = .ok (.newarray .int, 2) := by decide +kernel
theorem dX4_init_117 : decode cX4_init 117 = .ok (.putfield 67, 3) := by decide +kernel
theorem dX4_init_120 : decode cX4_init 120 = .ok (.iconst 0, 1) := by decide +kernel
theorem dX4_init_121 : decode cX4_init 121 = .ok (.istore_n 1, 1) := by decide +kernel
theorem dX4_init_122 : decode cX4_init 122 = .ok (.iload_n 1, 1) := by decide +kernel
theorem dX4_init_123 : decode cX4_init 123 = .ok (.bipush 6, 2) := by decide +kernel
theorem dX4_init_125 : decode cX4_init 125 = .ok (.if_icmp .ge 22, 3) := by decide +kernel
theorem dX4_init_128 : decode cX4_init 128 = .ok (.aload_n 0, 1) := by decide +kernel
theorem dX4_init_129 : decode cX4_init 129 = .ok (.getfield 11, 3) := by decide +kernel
theorem dX4_init_132 : decode cX4_init 132 = .ok (.iload_n 1, 1) := by decide +kernel
theorem dX4_init_133 : decode cX4_init 133 = .ok (.new 9, 3) := by decide +kernel
theorem dX4_init_136 : decode cX4_init 136 = .ok (.dup, 1) := by decide +kernel
theorem dX4_init_137 : decode cX4_init 137 = .ok (.invokespecial 71, 3) := by decide +kernel
theorem dX4_init_140 : decode cX4_init 140 = .ok (.aastore, 1) := by decide +kernel
theorem dX4_init_141 : decode cX4_init 141 = .ok (.iinc 1 1, 3) := by decide +kernel
theorem dX4_init_144 : decode cX4_init 144 = .ok (.goto (-22), 3) := by decide +kernel
theorem dX4_init_147 : decode cX4_init 147 = .ok (.iconst 0, 1) := by decide +kernel
theorem dX4_init_148 : decode cX4_init 148 = .ok (.istore_n 1, 1) := by decide +kernel
theorem dX4_init_149 : decode cX4_init 149 = .ok (.iload_n 1, 1) := by decide +kernel
theorem dX4_init_150 : decode cX4_init 150 = .ok (.iconst 4, 1) := by decide +kernel
theorem dX4_init_151 : decode cX4_init 151 = .ok (.if_icmp .ge 22, 3) := by decide +kernel
theorem dX4_init_154 : decode cX4_init 154 = .ok (.aload_n 0, 1) := by decide +kernel
theorem dX4_init_155 : decode cX4_init 155 = .ok (.getfield 15, 3) := by decide +kernel
theorem dX4_init_158 : decode cX4_init 158 = .ok (.iload_n 1, 1) := by decide +kernel
theorem dX4_init_159 : decode cX4_init 159 = .ok (.new 9, 3) := by decide +kernel
theorem dX4_init_162 : decode cX4_init 162 = .ok (.dup, 1) := by decide +kernel
theorem dX4_init_163 : decode cX4_init 163 = .ok (.invokespecial 71, 3) := by decide +kernel
theorem dX4_init_166 : decode cX4_init 166 = .ok (.aastore, 1) := by decide +kernel
theorem dX4_init_167 : decode cX4_init 167 = .ok (.iinc 1 1, 3) := by decide +kernel
theorem dX4_init_170 : decode cX4_init 170 = .ok (.goto (-21), 3) := by decide +kernel
theorem dX4_init_173 : decode cX4_init 173 = .ok (.iconst 0, 1) := by decide +kernel
theorem dX4_init_174 : decode cX4_init 174 = .ok (.istore_n 1, 1) := by decide +kernel
theorem dX4_init_175 : decode cX4_init 175 = .ok (.iload_n 1, 1) := by decide +kernel
theorem dX4_init_176 : decode cX4_init 176 = .ok (.iconst 3, 1) := by decide +kernel
theorem dX4_init_177 : decode cX4_init 177 = .ok (.if_icmp .ge 32, 3) := by decide +kernel
theorem dX4_init_180 : decode cX4_init 180 = .ok (.aload_n 0, 1) := by decide +kernel
theorem dX4_init_181 : decode cX4_init 181 = .ok (.getfield 39, 3) := by decide +kernel
theorem dX4_init_184 : decode cX4_init 184 = .ok (.iload_n 1, 1) := by decide +kernel
theorem dX4_init_185 : decode cX4_init 185 = .ok (.new 32, 3) := by decide +kernel
theorem dX4_init_188 : decode cX4_init 188 = .ok (.dup, 1) := by decide +kernel
theorem dX4_init_189 : decode cX4_init 189 = .ok (.invokespecial 34, 3) := by decide +kernel
theorem dX4_init_192 : decode cX4_init 192 = .ok (.aastore, 1) := by decide +kernel
theorem dX4_init_193 : decode cX4_init 193 = .ok (.aload_n 0, 1) := by decide +kernel
theorem dX4_init_194 : decode cX4_init 194 = .ok (.getfield 39, 3) := by decide +kernel
theorem dX4_init_197 : decode cX4_init 197 = .ok (.iload_n 1, 1) := by decide +kernel
theorem dX4_init_198 : decode cX4_init 198 = .ok (.aaload, 1) := by decide +kernel
theorem dX4_init_199 : decode cX4_init 199 = .ok (.iconst (-1), 1) := by decide +kernel
theorem dX4_init_200 : decode cX4_init 200 = .ok (.putfield 72, 3) := by decide +kernel
theorem dX4_init_203 : decode cX4_init 203 = .ok (.iinc 1 1, 3) := by decide +kernel
theorem dX4_init_206 : decode cX4_init 206 = .ok (.goto (-31), 3) := by decide +kernel
theorem dX4_init_209 : decode cX4_init 209 = .ok (.iconst 0, 1) := by decide +kernel
theorem dX4_init_210 : decode cX4_init 210 = .ok (.istore_n 1, 1) := by decide +kernel
theorem dX4_init_211 : decode cX4_init 211 = .ok (.iload_n 1, 1) := by decide +kernel
theorem dX4_init_212 : decode cX4_init 212 = .ok (.iconst 5, 1) := by decide +kernel
theorem dX4_init_213 : decode cX4_init 213 = .ok (.if_icmp .ge 22, 3) := by decide +kernel
theorem dX4_init_216 : decode cX4_init 216 = .ok (.aload_n 0, 1) := by decide +kernel
theorem dX4_init_217 : decode cX4_init 217 = .ok (.getfield 49, 3) := by decide +kernel
theorem dX4_init_220 : decode cX4_init 220 = .ok (.iload_n 1, 1) := by decide +kernel
theorem dX4_init_221 : decode cX4_init 221 = .ok (.new 25, 3) := by decide +kernel
theorem dX4_init_224 : decode cX4_init 224 = .ok (.dup, 1) := by decide +kernel
theorem dX4_init_225 : decode cX4_init 225 = .ok (.invokespecial 27, 3) := by decide +kernel
theorem dX4_init_228 : decode cX4_init 228 = .ok (.aastore, 1) := by decide +kernel
theorem dX4_init_229 : decode cX4_init 229 = .ok (.iinc 1 1, 3) := by decide +kernel
theorem dX4_init_232 : decode cX4_init 232 = .ok (.goto (-21), 3) := by decide +kernel
theorem dX4_init_235 : decode cX4_init 235 = .ok (.return_, 1) := by decide +kernel
theorem dX4_row_0 : decode cX4_row 0 = .ok (.iload_n 1, 1) := by decide +kernel
theorem dX4_row_1 : decode cX4_row 1 = .ok (.invokestatic 75, 3) := by decide +kernel
theorem dX4_row_4 : decode cX4_row 4 = .ok (.ifCond .eq 9, 3) := by decide +kernel
theorem dX4_row_7 : decode cX4_row 7 = .ok (.iload_n 2, 1) := by decide +kernel
theorem dX4_row_8 : decode cX4_row 8 = .ok (.bipush 40, 2) := by decide +kernel
theorem dX4_row_10 : decode cX4_row 10 = .ok (.if_icmp .le 5, 3) := by decide +kernel
theorem dX4_row_13 : decode cX4_row 13 = .ok (.iconst (-1), 1) := by decide +kernel
theorem dX4_row_14 : decode cX4_row 14 = .ok (.ireturn, 1) := by decide +kernel
theorem dX4_row_15 : decode cX4_row 15 = .ok (.iload_n 2, 1) := by decide +kernel
theorem dX4_row_16 : decode cX4_row 16 = .ok (.ifCond .ge 9, 3) := by decide +kernel
theorem dX4_row_19 : decode cX4_row 19 = .ok (.aload_n 0, 1) := by decide +kernel
theorem dX4_row_20 : decode cX4_row 20 = .ok (.iconst 5, 1) := by decide +kernel
theorem dX4_row_21 : decode cX4_row 21 = .ok (.invokevirtual 79, 3) := by decide +kernel
theorem dX4_row_24 : decode cX4_row 24 = .ok (.ireturn, 1) := by decide +kernel
theorem dX4_row_25 : decode cX4_row 25 = .ok (.aload_n 0, 1) := by decide +kernel
theorem dX4_row_26 : decode cX4_row 26 = .ok (.getfield 11, 3) := by decide +kernel
theorem dX4_row_29 : decode cX4_row 29 = .ok (.iload_n 1, 1) := by decide +kernel
theorem dX4_row_30 : decode cX4_row 30 = .ok (.aaload, 1) := by decide +kernel
theorem dX4_row_31 : decode cX4_row 31 = .ok (.iload_n 2, 1) := by decide +kernel
theorem dX4_row_32 : decode cX4_row 32 = .ok (.iconst 0, 1) := by decide +kernel
theorem dX4_row_33 : decode cX4_row 33 = .ok (.invokevirtual 83, 3) := by decide +kernel
theorem dX4_row_36 : decode cX4_row 36 = .ok (.iload_n 2, 1) := by decide +kernel
theorem dX4_row_37 : decode cX4_row 37 = .ok (.ireturn, 1) := by decide +kernel
theorem dX4_lay_0 : decode cX4_lay 0 = .ok (.iload_n 1, 1) := by decide +kernel
theorem dX4_lay_1 : decode cX4_lay 1 = .ok (.invokestatic 75, 3) := by decide +kernel
theorem dX4_lay_4 : decode cX4_lay 4 = .ok (.ifCond .ne 5, 3) := by decide +kernel
theorem dX4_lay_7 : decode cX4_lay 7 = .ok (.iconst (-1), 1) := by decide +kernel
theorem dX4_lay_8 : decode cX4_lay 8 = .ok (.ireturn, 1) := by decide +kernel
theorem dX4_lay_9 : decode cX4_lay 9 = .ok (.aload_n 0, 1) := by decide +kernel
theorem dX4_lay_10 : decode cX4_lay 10 = .ok (.getfield 11, 3) := by decide +kernel
theorem dX4_lay_13 : decode cX4_lay 13 = .ok (.iload_n 1, 1) := by decide +kernel
theorem dX4_lay_14 : decode cX4_lay 14 = .ok (.aaload, 1) := by decide +kernel
theorem dX4_lay_15 : decode cX4_lay 15 = .ok (.iload_n 2, 1) := by decide +kernel
theorem dX4_lay_16 : decode cX4_lay 16 = .ok (.invokestatic 87, 3) := by decide +kernel
theorem dX4_lay_19 : decode cX4_lay 19 = .ok (.istore 4, 2) := by decide +kernel
theorem dX4_lay_21 : decode cX4_lay 21 = .ok (.iload 4, 2) := by decide +kernel
theorem dX4_lay_23 : decode cX4_lay 23 = .ok (.ifCond .eq 10, 3) := by decide +kernel
theorem dX4_lay_26 : decode cX4_lay 26 = .ok (.aload_n 0, 1) := by decide +kernel
theorem dX4_lay_27 : decode cX4_lay 27 = .ok (.iload 4, 2) := by decide +kernel
theorem dX4_lay_29 : decode cX4_lay 29 = .ok (.invokevirtual 79, 3) := by decide +kernel
theorem dX4_lay_32 : decode cX4_lay 32 = .ok (.ireturn, 1) := by decide +kernel
theorem dX4_lay_33 : decode cX4_lay 33 = .ok (.aload_n 0, 1) := by decide +kernel
theorem dX4_lay_34 : decode cX4_lay 34 = .ok (.aload_n 0, 1) := by decide +kernel
theorem dX4_lay_35 : decode cX4_lay 35 = .ok (.getfield 11, 3) := by decide +kernel
theorem dX4_lay_38 : decode cX4_lay 38 = .ok (.iload_n 1, 1) := by decide +kernel
theorem dX4_lay_39 : decode cX4_lay 39 = .ok (.aaload, 1) := by decide +kernel
theorem dX4_lay_40 : decode cX4_lay 40 = .ok (.getfield 91, 3) := by decide +kernel
theorem dX4_lay_43 : decode cX4_lay 43 = .ok (.iload_n 2, 1) := by decide +kernel
theorem dX4_lay_44 : decode cX4_lay 44 = .ok (.iaload, 1) := by decide +kernel
theorem dX4_lay_45 : decode cX4_lay 45 = .ok (.putfield 53, 3) := by decide +kernel
theorem dX4_lay_48 : decode cX4_lay 48 = .ok (.aload_n 0, 1) := by decide +kernel
theorem dX4_lay_49 : decode cX4_lay 49 = .ok (.getfield 11, 3) := by decide +kernel
theorem dX4_lay_52 : decode cX4_lay 52 = .ok (.iload_n 1, 1) := by decide +kernel
theorem dX4_lay_53 : decode cX4_lay 53 = .ok (.aaload, 1) := by decide +kernel
theorem dX4_lay_54 : decode cX4_lay 54 = .ok (.getfield 91, 3) := by decide +kernel
theorem dX4_lay_57 : decode cX4_lay 57 = .ok (.iload_n 2, 1) := by decide +kernel
theorem dX4_lay_58 : decode cX4_lay 58 = .ok (.iload_n 3, 1) := by decide +kernel
theorem dX4_lay_59 : decode cX4_lay 59 = .ok (.iastore, 1) := by decide +kernel
theorem dX4_lay_60 : decode cX4_lay 60 = .ok (.iconst 1, 1) := by decide +kernel
theorem dX4_lay_61 : decode cX4_lay 61 = .ok (.ireturn, 1) := by decide +kernel
theorem dX4_at_0 : decode cX4_at 0 = .ok (.iload_n 1, 1) := by decide +kernel
theorem dX4_at_1 : decode cX4_at 1 = .ok (.invokestatic 75, 3) := by decide +kernel
theorem dX4_at_4 : decode cX4_at 4 = .ok (.ifCond .ne 5, 3) := by decide +kernel
theorem dX4_at_7 : decode cX4_at 7 = .ok (.iconst (-1), 1) := by decide +kernel
theorem dX4_at_8 : decode cX4_at 8 = .ok (.ireturn, 1) := by decide +kernel
theorem dX4_at_9 : decode cX4_at 9 = .ok (.aload_n 0, 1) := by decide +kernel
theorem dX4_at_10 : decode cX4_at 10 = .ok (.getfield 11, 3) := by decide +kernel
theorem dX4_at_13 : decode cX4_at 13 = .ok (.iload_n 1, 1) := by decide +kernel
theorem dX4_at_14 : decode cX4_at 14 = .ok (.aaload, 1) := by decide +kernel
theorem dX4_at_15 : decode cX4_at 15 = .ok (.iload_n 2, 1) := by decide +kernel
theorem dX4_at_16 : decode cX4_at 16 = .ok (.invokestatic 87, 3) := by decide +kernel
theorem dX4_at_19 : decode cX4_at 19 = .ok (.istore_n 3, 1) := by decide +kernel
theorem dX4_at_20 : decode cX4_at 20 = .ok (.iload_n 3, 1) := by decide +kernel
theorem dX4_at_21 : decode cX4_at 21 = .ok (.ifCond .eq 9, 3) := by decide +kernel
theorem dX4_at_24 : decode cX4_at 24 = .ok (.aload_n 0, 1) := by decide +kernel
theorem dX4_at_25 : decode cX4_at 25 = .ok (.iload_n 3, 1) := by decide +kernel
theorem dX4_at_26 : decode cX4_at 26 = .ok (.invokevirtual 79, 3) := by decide +kernel
theorem dX4_at_29 : decode cX4_at 29 = .ok (.ireturn, 1) := by decide +kernel
theorem dX4_at_30 : decode cX4_at 30 = .ok (.aload_n 0, 1) := by decide +kernel
theorem dX4_at_31 : decode cX4_at 31 = .ok (.aload_n 0, 1) := by decide +kernel
theorem dX4_at_32 : decode cX4_at 32 = .ok (.getfield 11, 3) := by decide +kernel
theorem dX4_at_35 : decode cX4_at 35 = .ok (.iload_n 1, 1) := by decide +kernel
theorem dX4_at_36 : decode cX4_at 36 = .ok (.aaload, 1) := by decide +kernel
theorem dX4_at_37 : decode cX4_at 37 = .ok (.getfield 91, 3) := by decide +kernel
theorem dX4_at_40 : decode cX4_at 40 = .ok (.iload_n 2, 1) := by decide +kernel
theorem dX4_at_41 : decode cX4_at 41 = .ok (.iaload, 1) := by decide +kernel
theorem dX4_at_42 : decode cX4_at 42 = .ok (.putfield 53, 3) := by decide +kernel
theorem dX4_at_45 : decode cX4_at 45 = .ok (.iconst 1, 1) := by decide +kernel
theorem dX4_at_46 : decode cX4_at 46 = .ok (.ireturn, 1) := by decide +kernel
theorem dX4_tear_0 : decode cX4_tear 0 = .ok (.iload_n 1, 1) := by decide +kernel
theorem dX4_tear_1 : decode cX4_tear 1 = .ok (.invokestatic 75, 3) := by decide +kernel
theorem dX4_tear_4 : decode cX4_tear 4 = .ok (.ifCond .ne 5, 3) := by decide +kernel
theorem dX4_tear_7 : decode cX4_tear 7 = .ok (.iconst (-1), 1) := by decide +kernel
theorem dX4_tear_8 : decode cX4_tear 8 = .ok (.ireturn, 1) := by decide +kernel
theorem dX4_tear_9 : decode cX4_tear 9 = .ok (.aload_n 0, 1) := by decide +kernel
theorem dX4_tear_10 : decode cX4_tear 10 = .ok (.getfield 11, 3) := by decide +kernel
theorem dX4_tear_13 : decode cX4_tear 13 = .ok (.iload_n 1, 1) := by decide +kernel
theorem dX4_tear_14 : decode cX4_tear 14 = .ok (.aaload, 1) := by decide +kernel
theorem dX4_tear_15 : decode cX4_tear 15 = .ok (.invokevirtual 94, 3) := by decide +kernel
theorem dX4_tear_18 : decode cX4_tear 18 = .ok (.ifCond .ne 9, 3) := by decide +kernel
theorem dX4_tear_21 : decode cX4_tear 21 = .ok (.aload_n 0, 1) := by decide +kernel
theorem dX4_tear_22 : decode cX4_tear 22 = .ok (.iconst 1, 1) := by decide +kernel
theorem dX4_tear_23 : decode cX4_tear 23 = .ok (.invokevirtual 79, 3) := by decide +kernel
theorem dX4_tear_26 : decode cX4_tear 26 = .ok (.ireturn, 1) := by decide +kernel
theorem dX4_tear_27 : decode cX4_tear 27 = .ok (.aload_n 0, 1) := by decide +kernel
theorem dX4_tear_28 : decode cX4_tear 28 = .ok (.getfield 11, 3) := by decide +kernel
theorem dX4_tear_31 : decode cX4_tear 31 = .ok (.iload_n 1, 1) := by decide +kernel
theorem dX4_tear_32 : decode cX4_tear 32 = .ok (.aaload, 1) := by decide +kernel
theorem dX4_tear_33 : decode cX4_tear 33 = .ok (.iconst (-1), 1) := by decide +kernel
theorem dX4_tear_34 : decode cX4_tear 34 = .ok (.putfield 98, 3) := by decide +kernel
theorem dX4_tear_37 : decode cX4_tear 37 = .ok (.iconst 1, 1) := by decide +kernel
theorem dX4_tear_38 : decode cX4_tear 38 = .ok (.ireturn, 1) := by decide +kernel
theorem dX4_copy_0 : decode cX4_copy 0 = .ok (.iload_n 1, 1) := by decide +kernel
theorem dX4_copy_1 : decode cX4_copy 1 = .ok (.invokestatic 75, 3) := by decide +kernel
theorem dX4_copy_4 : decode cX4_copy 4 = .ok (.ifCond .eq 10, 3) := by decide +kernel
theorem dX4_copy_7 : decode cX4_copy 7 = .ok (.iload_n 3, 1) := by decide +kernel
theorem dX4_copy_8 : decode cX4_copy 8 = .ok (.invokestatic 75, 3) := by decide +kernel
theorem dX4_copy_11 : decode cX4_copy 11 = .ok (.ifCond .ne 5, 3) := by decide +kernel
theorem dX4_copy_14 : decode cX4_copy 14 = .ok (.iconst (-1), 1) := by decide +kernel
theorem dX4_copy_15 : decode cX4_copy 15 = .ok (.ireturn, 1) := by decide +kernel
theorem dX4_copy_16 : decode cX4_copy 16 = .ok (.iload 5, 2) := by decide +kernel
theorem dX4_copy_18 : decode cX4_copy 18 = .ok (.ifCond .ge 9, 3) := by decide +kernel
theorem dX4_copy_21 : decode cX4_copy 21 = .ok (.aload_n 0, 1) := by decide +kernel
theorem dX4_copy_22 : decode cX4_copy 22 = .ok (.iconst 5, 1) := by decide +kernel
theorem dX4_copy_23 : decode cX4_copy 23 = .ok (.invokevirtual 79, 3) := by decide +kernel
theorem dX4_copy_26 : decode cX4_copy 26 = .ok (.ireturn, 1) := by decide +kernel
theorem dX4_copy_27 : decode cX4_copy 27 = .ok (.aload_n 0, 1) := by decide +kernel
theorem dX4_copy_28 : decode cX4_copy 28 = .ok (.getfield 11, 3) := by decide +kernel
theorem dX4_copy_31 : decode cX4_copy 31 = .ok (.iload_n 1, 1) := by decide +kernel
theorem dX4_copy_32 : decode cX4_copy 32 = .ok (.aaload, 1) := by decide +kernel
theorem dX4_copy_33 : decode cX4_copy 33 = .ok (.invokevirtual 94, 3) := by decide +kernel
theorem dX4_copy_36 : decode cX4_copy 36 = .ok (.ifCond .eq 15, 3) := by decide +kernel
theorem dX4_copy_39 : decode cX4_copy 39 = .ok (.aload_n 0, 1) := by decide +kernel
theorem dX4_copy_40 : decode cX4_copy 40 = .ok (.getfield 11, 3) := by decide +kernel
theorem dX4_copy_43 : decode cX4_copy 43 = .ok (.iload_n 3, 1) := by decide +kernel
theorem dX4_copy_44 : decode cX4_copy 44 = .ok (.aaload, 1) := by decide +kernel
theorem dX4_copy_45 : decode cX4_copy 45 = .ok (.invokevirtual 94, 3) := by decide +kernel
theorem dX4_copy_48 : decode cX4_copy 48 = .ok (.ifCond .ne 9, 3) := by decide +kernel
theorem dX4_copy_51 : decode cX4_copy 51 = .ok (.aload_n 0, 1) := by decide +kernel
theorem dX4_copy_52 : decode cX4_copy 52 = .ok (.iconst 1, 1) := by decide +kernel
theorem dX4_copy_53 : decode cX4_copy 53 = .ok (.invokevirtual 79, 3) := by decide +kernel
theorem dX4_copy_56 : decode cX4_copy 56 = .ok (.ireturn, 1) := by decide +kernel
theorem dX4_copy_57 : decode cX4_copy 57 = .ok (.aload_n 0, 1) := by decide +kernel
theorem dX4_copy_58 : decode cX4_copy 58 = .ok (.getfield 11, 3) := by decide +kernel
theorem dX4_copy_61 : decode cX4_copy 61 = .ok (.iload_n 1, 1) := by decide +kernel
theorem dX4_copy_62 : decode cX4_copy 62 = .ok (.aaload, 1) := by decide +kernel
theorem dX4_copy_63 : decode cX4_copy 63 = .ok (.iload_n 2, 1) := by decide +kernel
theorem dX4_copy_64 : decode cX4_copy 64 = .ok (.iload 5, 2) := by decide +kernel
theorem dX4_copy_66 : decode cX4_copy 66 = .ok (.invokevirtual 101, 3) := by decide +kernel
theorem dX4_copy_69 : decode cX4_copy 69 = .ok (.ifCond .eq 19, 3) := by decide +kernel
theorem dX4_copy_72 : decode cX4_copy 72 = .ok (.aload_n 0, 1) := by decide +kernel
theorem dX4_copy_73 : decode cX4_copy 73 = .ok (.getfield 11, 3) := by decide +kernel
theorem dX4_copy_76 : decode cX4_copy 76 = .ok (.iload_n 3, 1) := by decide +kernel
theorem dX4_copy_77 : decode cX4_copy 77 = .ok (.aaload, 1) := by decide +kernel
theorem dX4_copy_78 : decode cX4_copy 78 = .ok (.iload 4, 2) := by decide +kernel
theorem dX4_copy_80 : decode cX4_copy 80 = .ok (.iload 5, 2) := by decide +kernel
theorem dX4_copy_82 : decode cX4_copy 82 = .ok (.invokevirtual 101, 3) := by decide +kernel
theorem dX4_copy_85 : decode cX4_copy 85 = .ok (.ifCond .ne 9, 3) := by decide +kernel
theorem dX4_copy_88 : decode cX4_copy 88 = .ok (.aload_n 0, 1) := by decide +kernel
theorem dX4_copy_89 : decode cX4_copy 89 = .ok (.iconst 2, 1) := by decide +kernel
theorem dX4_copy_90 : decode cX4_copy 90 = .ok (.invokevirtual 79, 3) := by decide +kernel
theorem dX4_copy_93 : decode cX4_copy 93 = .ok (.ireturn, 1) := by decide +kernel
theorem dX4_copy_94 : decode cX4_copy 94 = .ok (.aload_n 0, 1) := by decide +kernel
theorem dX4_copy_95 : decode cX4_copy 95 = .ok (.getfield 11, 3) := by decide +kernel
theorem dX4_copy_98 : decode cX4_copy 98 = .ok (.iload_n 1, 1) := by decide +kernel
theorem dX4_copy_99 : decode cX4_copy 99 = .ok (.aaload, 1) := by decide +kernel
theorem dX4_copy_100 : decode cX4_copy 100 = .ok (.getfield 91, 3) := by decide +kernel
theorem dX4_copy_103 : decode cX4_copy 103 = .ok (.iload_n 2, 1) := by decide +kernel
theorem dX4_copy_104 : decode cX4_copy 104 = .ok (.aload_n 0, 1) := by decide +kernel
theorem dX4_copy_105 : decode cX4_copy 105 = .ok (.getfield 11, 3) := by decide +kernel
theorem dX4_copy_108 : decode cX4_copy 108 = .ok (.iload_n 3, 1) := by decide +kernel
theorem dX4_copy_109 : decode cX4_copy 109 = .ok (.aaload, 1) := by decide +kernel
theorem dX4_copy_110 : decode cX4_copy 110 = .ok (.getfield 91, 3) := by decide +kernel
theorem dX4_copy_113 : decode cX4_copy 113 = .ok (.iload 4, 2) := by decide +kernel
theorem dX4_copy_115 : decode cX4_copy 115 = .ok (.iload 5, 2) := by decide +kernel
theorem dX4_copy_117 : decode cX4_copy 117 = .ok (.invokestatic 105, 3) := by decide +kernel
theorem dX4_copy_120 : decode cX4_copy 120 = .ok (.iconst 1, 1) := by decide +kernel
theorem dX4_copy_121 : decode cX4_copy 121 = .ok (.ireturn, 1) := by decide +kernel
theorem dX4_mean_0 : decode cX4_mean 0 = .ok (.iload_n 1, 1) := by decide +kernel
theorem dX4_mean_1 : decode cX4_mean 1 = .ok (.invokestatic 75, 3) := by decide +kernel
theorem dX4_mean_4 : decode cX4_mean 4 = .ok (.ifCond .ne 5, 3) := by decide +kernel
theorem dX4_mean_7 : decode cX4_mean 7 = .ok (.iconst (-1), 1) := by decide +kernel
theorem dX4_mean_8 : decode cX4_mean 8 = .ok (.ireturn, 1) := by decide +kernel
theorem dX4_mean_9 : decode cX4_mean 9 = .ok (.aload_n 0, 1) := by decide +kernel
theorem dX4_mean_10 : decode cX4_mean 10 = .ok (.getfield 11, 3) := by decide +kernel
theorem dX4_mean_13 : decode cX4_mean 13 = .ok (.iload_n 1, 1) := by decide +kernel
theorem dX4_mean_14 : decode cX4_mean 14 = .ok (.aaload, 1) := by decide +kernel
theorem dX4_mean_15 : decode cX4_mean 15 = .ok (.invokevirtual 94, 3) := by decide +kernel
theorem dX4_mean_18 : decode cX4_mean 18 = .ok (.ifCond .ne 9, 3) := by decide +kernel
theorem dX4_mean_21 : decode cX4_mean 21 = .ok (.aload_n 0, 1) := by decide +kernel
theorem dX4_mean_22 : decode cX4_mean 22 = .ok (.iconst 1, 1) := by decide +kernel
theorem dX4_mean_23 : decode cX4_mean 23 = .ok (.invokevirtual 79, 3) := by decide +kernel
theorem dX4_mean_26 : decode cX4_mean 26 = .ok (.ireturn, 1) := by decide +kernel
theorem dX4_mean_27 : decode cX4_mean 27 = .ok (.aload_n 0, 1) := by decide +kernel
theorem dX4_mean_28 : decode cX4_mean 28 = .ok (.getfield 11, 3) := by decide +kernel
theorem dX4_mean_31 : decode cX4_mean 31 = .ok (.iload_n 1, 1) := by decide +kernel
theorem dX4_mean_32 : decode cX4_mean 32 = .ok (.aaload, 1) := by decide +kernel
theorem dX4_mean_33 : decode cX4_mean 33 = .ok (.getfield 98, 3) := by decide +kernel
theorem dX4_mean_36 : decode cX4_mean 36 = .ok (.ifCond .ne 9, 3) := by decide +kernel
theorem dX4_mean_39 : decode cX4_mean 39 = .ok (.aload_n 0, 1) := by decide +kernel
theorem dX4_mean_40 : decode cX4_mean 40 = .ok (.iconst 4, 1) := by decide +kernel
theorem dX4_mean_41 : decode cX4_mean 41 = .ok (.invokevirtual 79, 3) := by decide +kernel
theorem dX4_mean_44 : decode cX4_mean 44 = .ok (.ireturn, 1) := by decide +kernel
theorem dX4_mean_45 : decode cX4_mean 45 = .ok (.aload_n 0, 1) := by decide +kernel
theorem dX4_mean_46 : decode cX4_mean 46 = .ok (.aload_n 0, 1) := by decide +kernel
theorem dX4_mean_47 : decode cX4_mean 47 = .ok (.getfield 11, 3) := by decide +kernel
theorem dX4_mean_50 : decode cX4_mean 50 = .ok (.iload_n 1, 1) := by decide +kernel
theorem dX4_mean_51 : decode cX4_mean 51 = .ok (.aaload, 1) := by decide +kernel
theorem dX4_mean_52 : decode cX4_mean 52 = .ok (.invokevirtual 111, 3) := by decide +kernel
theorem dX4_mean_55 : decode cX4_mean 55 = .ok (.aload_n 0, 1) := by decide +kernel
theorem dX4_mean_56 : decode cX4_mean 56 = .ok (.getfield 11, 3) := by decide +kernel
theorem dX4_mean_59 : decode cX4_mean 59 = .ok (.iload_n 1, 1) := by decide +kernel
theorem dX4_mean_60 : decode cX4_mean 60 = .ok (.aaload, 1) := by decide +kernel
theorem dX4_mean_61 : decode cX4_mean 61 = .ok (.getfield 98, 3) := by decide +kernel
theorem dX4_mean_64 : decode cX4_mean 64 = .ok (.i2l, 1) := by decide +kernel
theorem dX4_mean_65 : decode cX4_mean 65 = .ok (.ldiv, 1) := by decide +kernel
theorem dX4_mean_66 : decode cX4_mean 66 = .ok (.l2i, 1) := by decide +kernel
theorem dX4_mean_67 : decode cX4_mean 67 = .ok (.putfield 53, 3) := by decide +kernel
theorem dX4_mean_70 : decode cX4_mean 70 = .ok (.iconst 1, 1) := by decide +kernel
theorem dX4_mean_71 : decode cX4_mean 71 = .ok (.ireturn, 1) := by decide +kernel
theorem dX4_text_0 : decode cX4_text 0 = .ok (.iload_n 1, 1) := by decide +kernel
theorem dX4_text_1 : decode cX4_text 1 = .ok (.invokestatic 115, 3) := by decide +kernel
theorem dX4_text_4 : decode cX4_text 4 = .ok (.ifCond .eq 9, 3) := by decide +kernel
theorem dX4_text_7 : decode cX4_text 7 = .ok (.iload_n 2, 1) := by decide +kernel
theorem dX4_text_8 : decode cX4_text 8 = .ok (.bipush 60, 2) := by decide +kernel
theorem dX4_text_10 : decode cX4_text 10 = .ok (.if_icmp .le 5, 3) := by decide +kernel
theorem dX4_text_13 : decode cX4_text 13 = .ok (.iconst (-1), 1) := by decide +kernel
theorem dX4_text_14 : decode cX4_text 14 = .ok (.ireturn, 1) := by decide +kernel
theorem dX4_text_15 : decode cX4_text 15 = .ok (.iload_n 2, 1) := by decide +kernel
theorem dX4_text_16 : decode cX4_text 16 = .ok (.ifCond .ge 9, 3) := by decide +kernel
theorem dX4_text_19 : decode cX4_text 19 = .ok (.aload_n 0, 1) := by decide +kernel
theorem dX4_text_20 : decode cX4_text 20 = .ok (.iconst 5, 1) := by decide +kernel
theorem dX4_text_21 : decode cX4_text 21 = .ok (.invokevirtual 79, 3) := by decide +kernel
theorem dX4_text_24 : decode cX4_text 24 = .ok (.ireturn, 1) := by decide +kernel
theorem dX4_text_25 : decode cX4_text 25 = .ok (.aload_n 0, 1) := by decide +kernel
theorem dX4_text_26 : decode cX4_text 26 = .ok (.getfield 15, 3) := by decide +kernel
theorem dX4_text_29 : decode cX4_text 29 = .ok (.iload_n 1, 1) := by decide +kernel
theorem dX4_text_30 : decode cX4_text 30 = .ok (.aaload, 1) := by decide +kernel
theorem dX4_text_31 : decode cX4_text 31 = .ok (.iload_n 2, 1) := by decide +kernel
theorem dX4_text_32 : decode cX4_text 32 = .ok (.bipush 32, 2) := by decide +kernel
theorem dX4_text_34 : decode cX4_text 34 = .ok (.invokevirtual 83, 3) := by decide +kernel
theorem dX4_text_37 : decode cX4_text 37 = .ok (.iload_n 2, 1) := by decide +kernel
theorem dX4_text_38 : decode cX4_text 38 = .ok (.ireturn, 1) := by decide +kernel
theorem dX4_put_0 : decode cX4_put 0 = .ok (.iload_n 1, 1) := by decide +kernel
theorem dX4_put_1 : decode cX4_put 1 = .ok (.invokestatic 115, 3) := by decide +kernel
theorem dX4_put_4 : decode cX4_put 4 = .ok (.ifCond .ne 5, 3) := by decide +kernel
theorem dX4_put_7 : decode cX4_put 7 = .ok (.iconst (-1), 1) := by decide +kernel
theorem dX4_put_8 : decode cX4_put 8 = .ok (.ireturn, 1) := by decide +kernel
theorem dX4_put_9 : decode cX4_put 9 = .ok (.aload_n 0, 1) := by decide +kernel
theorem dX4_put_10 : decode cX4_put 10 = .ok (.getfield 15, 3) := by decide +kernel
theorem dX4_put_13 : decode cX4_put 13 = .ok (.iload_n 1, 1) := by decide +kernel
theorem dX4_put_14 : decode cX4_put 14 = .ok (.aaload, 1) := by decide +kernel
theorem dX4_put_15 : decode cX4_put 15 = .ok (.iload_n 2, 1) := by decide +kernel
theorem dX4_put_16 : decode cX4_put 16 = .ok (.invokestatic 87, 3) := by decide +kernel
theorem dX4_put_19 : decode cX4_put 19 = .ok (.istore 4, 2) := by decide +kernel
theorem dX4_put_21 : decode cX4_put 21 = .ok (.iload 4, 2) := by decide +kernel
theorem dX4_put_23 : decode cX4_put 23 = .ok (.ifCond .eq 10, 3) := by decide +kernel
theorem dX4_put_26 : decode cX4_put 26 = .ok (.aload_n 0, 1) := by decide +kernel
theorem dX4_put_27 : decode cX4_put 27 = .ok (.iload 4, 2) := by decide +kernel
theorem dX4_put_29 : decode cX4_put 29 = .ok (.invokevirtual 79, 3) := by decide +kernel
theorem dX4_put_32 : decode cX4_put 32 = .ok (.ireturn, 1) := by decide +kernel
theorem dX4_put_33 : decode cX4_put 33 = .ok (.aload_n 0, 1) := by decide +kernel
theorem dX4_put_34 : decode cX4_put 34 = .ok (.getfield 15, 3) := by decide +kernel
theorem dX4_put_37 : decode cX4_put 37 = .ok (.iload_n 1, 1) := by decide +kernel
theorem dX4_put_38 : decode cX4_put 38 = .ok (.aaload, 1) := by decide +kernel
theorem dX4_put_39 : decode cX4_put 39 = .ok (.getfield 91, 3) := by decide +kernel
theorem dX4_put_42 : decode cX4_put 42 = .ok (.iload_n 2, 1) := by decide +kernel
theorem dX4_put_43 : decode cX4_put 43 = .ok (.iaload, 1) := by decide +kernel
theorem dX4_put_44 : decode cX4_put 44 = .ok (.istore 5, 2) := by decide +kernel
theorem dX4_put_46 : decode cX4_put 46 = .ok (.aload_n 0, 1) := by decide +kernel
theorem dX4_put_47 : decode cX4_put 47 = .ok (.getfield 15, 3) := by decide +kernel
theorem dX4_put_50 : decode cX4_put 50 = .ok (.iload_n 1, 1) := by decide +kernel
theorem dX4_put_51 : decode cX4_put 51 = .ok (.aaload, 1) := by decide +kernel
theorem dX4_put_52 : decode cX4_put 52 = .ok (.getfield 91, 3) := by decide +kernel
theorem dX4_put_55 : decode cX4_put 55 = .ok (.iload_n 2, 1) := by decide +kernel
theorem dX4_put_56 : decode cX4_put 56 = .ok (.iload_n 3, 1) := by decide +kernel
theorem dX4_put_57 : decode cX4_put 57 = .ok (.i2b, 1) := by decide +kernel
theorem dX4_put_58 : decode cX4_put 58 = .ok (.iastore, 1) := by decide +kernel
theorem dX4_put_59 : decode cX4_put 59 = .ok (.iload 5, 2) := by decide +kernel
theorem dX4_put_61 : decode cX4_put 61 = .ok (.sipush 1000, 3) := by decide +kernel
theorem dX4_put_64 : decode cX4_put 64 = .ok (.iadd, 1) := by decide +kernel
theorem dX4_put_65 : decode cX4_put 65 = .ok (.ireturn, 1) := by decide +kernel
theorem dX4_fault_0 : decode cX4_fault 0 = .ok (.iload_n 1, 1) := by decide +kernel
theorem dX4_fault_1 : decode cX4_fault 1 = .ok (.invokestatic 115, 3) := by decide +kernel
theorem dX4_fault_4 : decode cX4_fault 4 = .ok (.ifCond .ne 5, 3) := by decide +kernel
theorem dX4_fault_7 : decode cX4_fault 7 = .ok (.iconst (-1), 1) := by decide +kernel
theorem dX4_fault_8 : decode cX4_fault 8 = .ok (.ireturn, 1) := by decide +kernel
theorem dX4_fault_9 : decode cX4_fault 9 = .ok (.aload_n 0, 1) := by decide +kernel
theorem dX4_fault_10 : decode cX4_fault 10 = .ok (.getfield 15, 3) := by decide +kernel
theorem dX4_fault_13 : decode cX4_fault 13 = .ok (.iload_n 1, 1) := by decide +kernel
theorem dX4_fault_14 : decode cX4_fault 14 = .ok (.aaload, 1) := by decide +kernel
theorem dX4_fault_15 : decode cX4_fault 15 = .ok (.invokevirtual 94, 3) := by decide +kernel
theorem dX4_fault_18 : decode cX4_fault 18 = .ok (.ifCond .ne 9, 3) := by decide +kernel
theorem dX4_fault_21 : decode cX4_fault 21 = .ok (.aload_n 0, 1) := by decide +kernel
theorem dX4_fault_22 : decode cX4_fault 22 = .ok (.iconst 1, 1) := by decide +kernel
theorem dX4_fault_23 : decode cX4_fault 23 = .ok (.invokevirtual 79, 3) := by decide +kernel
theorem dX4_fault_26 : decode cX4_fault 26 = .ok (.ireturn, 1) := by decide +kernel
theorem dX4_fault_27 : decode cX4_fault 27 = .ok (.aload_n 0, 1) := by decide +kernel
theorem dX4_fault_28 : decode cX4_fault 28 = .ok (.getfield 15, 3) := by decide +kernel
theorem dX4_fault_31 : decode cX4_fault 31 = .ok (.iload_n 1, 1) := by decide +kernel
theorem dX4_fault_32 : decode cX4_fault 32 = .ok (.aaload, 1) := by decide +kernel
theorem dX4_fault_33 : decode cX4_fault 33 = .ok (.invokestatic 118, 3) := by decide +kernel
theorem dX4_fault_36 : decode cX4_fault 36 = .ok (.ireturn, 1) := by decide +kernel
theorem dX4_leat_0 : decode cX4_leat 0 = .ok (.iload_n 1, 1) := by decide +kernel
theorem dX4_leat_1 : decode cX4_leat 1 = .ok (.invokestatic 115, 3) := by decide +kernel
theorem dX4_leat_4 : decode cX4_leat 4 = .ok (.ifCond .ne 5, 3) := by decide +kernel
theorem dX4_leat_7 : decode cX4_leat 7 = .ok (.iconst (-1), 1) := by decide +kernel
theorem dX4_leat_8 : decode cX4_leat 8 = .ok (.ireturn, 1) := by decide +kernel
theorem dX4_leat_9 : decode cX4_leat 9 = .ok (.aload_n 0, 1) := by decide +kernel
theorem dX4_leat_10 : decode cX4_leat 10 = .ok (.getfield 15, 3) := by decide +kernel
theorem dX4_leat_13 : decode cX4_leat 13 = .ok (.iload_n 1, 1) := by decide +kernel
theorem dX4_leat_14 : decode cX4_leat 14 = .ok (.aaload, 1) := by decide +kernel
theorem dX4_leat_15 : decode cX4_leat 15 = .ok (.invokevirtual 94, 3) := by decide +kernel
theorem dX4_leat_18 : decode cX4_leat 18 = .ok (.ifCond .ne 9, 3) := by decide +kernel
theorem dX4_leat_21 : decode cX4_leat 21 = .ok (.aload_n 0, 1) := by decide +kernel
theorem dX4_leat_22 : decode cX4_leat 22 = .ok (.iconst 1, 1) := by decide +kernel
theorem dX4_leat_23 : decode cX4_leat 23 = .ok (.invokevirtual 79, 3) := by decide +kernel
theorem dX4_leat_26 : decode cX4_leat 26 = .ok (.ireturn, 1) := by decide +kernel
theorem dX4_leat_27 : decode cX4_leat 27 = .ok (.aload_n 0, 1) := by decide +kernel
theorem dX4_leat_28 : decode cX4_leat 28 = .ok (.getfield 15, 3) := by decide +kernel
theorem dX4_leat_31 : decode cX4_leat 31 = .ok (.iload_n 1, 1) := by decide +kernel
theorem dX4_leat_32 : decode cX4_leat 32 = .ok (.aaload, 1) := by decide +kernel
theorem dX4_leat_33 : decode cX4_leat 33 = .ok (.invokestatic 118, 3) := by decide +kernel
theorem dX4_leat_36 : decode cX4_leat 36 = .ok (.bipush (-9), 2) := by decide +kernel
theorem dX4_leat_38 : decode cX4_leat 38 = .ok (.if_icmp .eq 6, 3) := by decide +kernel
theorem dX4_leat_41 : decode cX4_leat 41 = .ok (.bipush (-4), 2) := by decide +kernel
theorem dX4_leat_43 : decode cX4_leat 43 = .ok (.ireturn, 1) := by decide +kernel
theorem dX4_leat_44 : decode cX4_leat 44 = .ok (.aload_n 0, 1) := by decide +kernel
theorem dX4_leat_45 : decode cX4_leat 45 = .ok (.getfield 21, 3) := by decide +kernel
theorem dX4_leat_48 : decode cX4_leat 48 = .ok (.aload_n 0, 1) := by decide +kernel
theorem dX4_leat_49 : decode cX4_leat 49 = .ok (.getfield 15, 3) := by decide +kernel
theorem dX4_leat_52 : decode cX4_leat 52 = .ok (.iload_n 1, 1) := by decide +kernel
theorem dX4_leat_53 : decode cX4_leat 53 = .ok (.aaload, 1) := by decide +kernel
theorem dX4_leat_54 : decode cX4_leat 54 = .ok (.invokevirtual 122, 3) := by decide +kernel
theorem dX4_leat_57 : decode cX4_leat 57 = .ok (.aload_n 0, 1) := by decide +kernel
theorem dX4_leat_58 : decode cX4_leat 58 = .ok (.getfield 35, 3) := by decide +kernel
theorem dX4_leat_61 : decode cX4_leat 61 = .ok (.iconst 0, 1) := by decide +kernel
theorem dX4_leat_62 : decode cX4_leat 62 = .ok (.putfield 72, 3) := by decide +kernel
theorem dX4_leat_65 : decode cX4_leat 65 = .ok (.aload_n 0, 1) := by decide +kernel
theorem dX4_leat_66 : decode cX4_leat 66 = .ok (.invokevirtual 126, 3) := by decide +kernel
theorem dX4_leat_69 : decode cX4_leat 69 = .ok (.iconst 0, 1) := by decide +kernel
theorem dX4_leat_70 : decode cX4_leat 70 = .ok (.istore_n 2, 1) := by decide +kernel
theorem dX4_leat_71 : decode cX4_leat 71 = .ok (.iload_n 2, 1) := by decide +kernel
theorem dX4_leat_72 : decode cX4_leat 72 = .ok (.iconst 3, 1) := by decide +kernel
theorem dX4_leat_73 : decode cX4_leat 73 = .ok (.if_icmp .ge 19, 3) := by decide +kernel
theorem dX4_leat_76 : decode cX4_leat 76 = .ok (.aload_n 0, 1) := by decide +kernel
theorem dX4_leat_77 : decode cX4_leat 77 = .ok (.getfield 39, 3) := by decide +kernel
theorem dX4_leat_80 : decode cX4_leat 80 = .ok (.iload_n 2, 1) := by decide +kernel
theorem dX4_leat_81 : decode cX4_leat 81 = .ok (.aaload, 1) := by decide +kernel
theorem dX4_leat_82 : decode cX4_leat 82 = .ok (.iconst (-1), 1) := by decide +kernel
theorem dX4_leat_83 : decode cX4_leat 83 = .ok (.putfield 72, 3) := by decide +kernel
theorem dX4_leat_86 : decode cX4_leat 86 = .ok (.iinc 2 1, 3) := by decide +kernel
theorem dX4_leat_89 : decode cX4_leat 89 = .ok (.goto (-18), 3) := by decide +kernel
theorem dX4_leat_92 : decode cX4_leat 92 = .ok (.aload_n 0, 1) := by decide +kernel
theorem dX4_leat_93 : decode cX4_leat 93 = .ok (.getfield 21, 3) := by decide +kernel
theorem dX4_leat_96 : decode cX4_leat 96 = .ok (.getfield 129, 3) := by decide +kernel
theorem dX4_leat_99 : decode cX4_leat 99 = .ok (.ireturn, 1) := by decide +kernel
theorem dX4_day_0 : decode cX4_day 0 = .ok (.aload_n 0, 1) := by decide +kernel
theorem dX4_day_1 : decode cX4_day 1 = .ok (.iload_n 1, 1) := by decide +kernel
theorem dX4_day_2 : decode cX4_day 2 = .ok (.invokevirtual 130, 3) := by decide +kernel
theorem dX4_day_5 : decode cX4_day 5 = .ok (.ifCond .eq 12, 3) := by decide +kernel
theorem dX4_day_8 : decode cX4_day 8 = .ok (.iload_n 2, 1) := by decide +kernel
theorem dX4_day_9 : decode cX4_day 9 = .ok (.iconst 0, 1) := by decide +kernel
theorem dX4_day_10 : decode cX4_day 10 = .ok (.iconst 5, 1) := by decide +kernel
theorem dX4_day_11 : decode cX4_day 11 = .ok (.invokestatic 133, 3) := by decide +kernel
theorem dX4_day_14 : decode cX4_day 14 = .ok (.ifCond .ne 5, 3) := by decide +kernel
theorem dX4_day_17 : decode cX4_day 17 = .ok (.iconst (-1), 1) := by decide +kernel
theorem dX4_day_18 : decode cX4_day 18 = .ok (.ireturn, 1) := by decide +kernel
theorem dX4_day_19 : decode cX4_day 19 = .ok (.aload_n 0, 1) := by decide +kernel
theorem dX4_day_20 : decode cX4_day 20 = .ok (.aload_n 0, 1) := by decide +kernel
theorem dX4_day_21 : decode cX4_day 21 = .ok (.iload_n 1, 1) := by decide +kernel
theorem dX4_day_22 : decode cX4_day 22 = .ok (.iload_n 2, 1) := by decide +kernel
theorem dX4_day_23 : decode cX4_day 23 = .ok (.invokevirtual 137, 3) := by decide +kernel
theorem dX4_day_26 : decode cX4_day 26 = .ok (.putfield 53, 3) := by decide +kernel
theorem dX4_day_29 : decode cX4_day 29 = .ok (.iconst 1, 1) := by decide +kernel
theorem dX4_day_30 : decode cX4_day 30 = .ok (.ireturn, 1) := by decide +kernel
theorem dX4_mark_0 : decode cX4_mark 0 = .ok (.aload_n 0, 1) := by decide +kernel
theorem dX4_mark_1 : decode cX4_mark 1 = .ok (.iload_n 1, 1) := by decide +kernel
theorem dX4_mark_2 : decode cX4_mark 2 = .ok (.invokevirtual 130, 3) := by decide +kernel
theorem dX4_mark_5 : decode cX4_mark 5 = .ok (.ifCond .eq 12, 3) := by decide +kernel
theorem dX4_mark_8 : decode cX4_mark 8 = .ok (.iload_n 2, 1) := by decide +kernel
theorem dX4_mark_9 : decode cX4_mark 9 = .ok (.iconst 1, 1) := by decide +kernel
theorem dX4_mark_10 : decode cX4_mark 10 = .ok (.iconst 5, 1) := by decide +kernel
theorem dX4_mark_11 : decode cX4_mark 11 = .ok (.invokestatic 133, 3) := by decide +kernel
theorem dX4_mark_14 : decode cX4_mark 14 = .ok (.ifCond .ne 5, 3) := by decide +kernel
theorem dX4_mark_17 : decode cX4_mark 17 = .ok (.iconst (-1), 1) := by decide +kernel
theorem dX4_mark_18 : decode cX4_mark 18 = .ok (.ireturn, 1) := by decide +kernel
theorem dX4_mark_19 : decode cX4_mark 19 = .ok (.aload_n 0, 1) := by decide +kernel
theorem dX4_mark_20 : decode cX4_mark 20 = .ok (.getfield 21, 3) := by decide +kernel
theorem dX4_mark_23 : decode cX4_mark 23 = .ok (.getfield 141, 3) := by decide +kernel
theorem dX4_mark_26 : decode cX4_mark 26 = .ok (.iload_n 1, 1) := by decide +kernel
theorem dX4_mark_27 : decode cX4_mark 27 = .ok (.iaload, 1) := by decide +kernel
theorem dX4_mark_28 : decode cX4_mark 28 = .ok (.iload_n 2, 1) := by decide +kernel
theorem dX4_mark_29 : decode cX4_mark 29 = .ok (.invokestatic 144, 3) := by decide +kernel
theorem dX4_mark_32 : decode cX4_mark 32 = .ok (.ifCond .ne 9, 3) := by decide +kernel
theorem dX4_mark_35 : decode cX4_mark 35 = .ok (.aload_n 0, 1) := by decide +kernel
theorem dX4_mark_36 : decode cX4_mark 36 = .ok (.iconst 3, 1) := by decide +kernel
theorem dX4_mark_37 : decode cX4_mark 37 = .ok (.invokevirtual 79, 3) := by decide +kernel
theorem dX4_mark_40 : decode cX4_mark 40 = .ok (.ireturn, 1) := by decide +kernel
theorem dX4_mark_41 : decode cX4_mark 41 = .ok (.aload_n 0, 1) := by decide +kernel
theorem dX4_mark_42 : decode cX4_mark 42 = .ok (.iload_n 1, 1) := by decide +kernel
theorem dX4_mark_43 : decode cX4_mark 43 = .ok (.iload_n 2, 1) := by decide +kernel
theorem dX4_mark_44 : decode cX4_mark 44 = .ok (.invokevirtual 147, 3) := by decide +kernel
theorem dX4_mark_47 : decode cX4_mark 47 = .ok (.bipush 100, 2) := by decide +kernel
theorem dX4_mark_49 : decode cX4_mark 49 = .ok (.iadd, 1) := by decide +kernel
theorem dX4_mark_50 : decode cX4_mark 50 = .ok (.ireturn, 1) := by decide +kernel
theorem dX4_grinds_0 : decode cX4_grinds 0 = .ok (.aload_n 0, 1) := by decide +kernel
theorem dX4_grinds_1 : decode cX4_grinds 1 = .ok (.iload_n 1, 1) := by decide +kernel
theorem dX4_grinds_2 : decode cX4_grinds 2 = .ok (.invokevirtual 130, 3) := by decide +kernel
theorem dX4_grinds_5 : decode cX4_grinds 5 = .ok (.ifCond .eq 22, 3) := by decide +kernel
theorem dX4_grinds_8 : decode cX4_grinds 8 = .ok (.iload_n 2, 1) := by decide +kernel
theorem dX4_grinds_9 : decode cX4_grinds 9 = .ok (.iconst 0, 1) := by decide +kernel
theorem dX4_grinds_10 : decode cX4_grinds 10 = .ok (.iconst 4, 1) := by decide +kernel
theorem dX4_grinds_11 : decode cX4_grinds 11 = .ok (.invokestatic 133, 3) := by decide +kernel
theorem dX4_grinds_14 : decode cX4_grinds 14 = .ok (.ifCond .eq 13, 3) := by decide +kernel
theorem dX4_grinds_17 : decode cX4_grinds 17 = .ok (.iload_n 3, 1) := by decide +kernel
theorem dX4_grinds_18 : decode cX4_grinds 18 = .ok (.iconst 0, 1) := by decide +kernel
theorem dX4_grinds_19 : decode cX4_grinds 19 = .ok (.bipush 40, 2) := by decide +kernel
theorem dX4_grinds_21 : decode cX4_grinds 21 = .ok (.invokestatic 133, 3) := by decide +kernel
theorem dX4_grinds_24 : decode cX4_grinds 24 = .ok (.ifCond .ne 5, 3) := by decide +kernel
theorem dX4_grinds_27 : decode cX4_grinds 27 = .ok (.iconst (-1), 1) := by decide +kernel
theorem dX4_grinds_28 : decode cX4_grinds 28 = .ok (.ireturn, 1) := by decide +kernel
theorem dX4_grinds_29 : decode cX4_grinds 29 = .ok (.aload_n 0, 1) := by decide +kernel
theorem dX4_grinds_30 : decode cX4_grinds 30 = .ok (.getfield 21, 3) := by decide +kernel
theorem dX4_grinds_33 : decode cX4_grinds 33 = .ok (.iload_n 1, 1) := by decide +kernel
theorem dX4_grinds_34 : decode cX4_grinds 34 = .ok (.iload_n 2, 1) := by decide +kernel
theorem dX4_grinds_35 : decode cX4_grinds 35 = .ok (.iload_n 3, 1) := by decide +kernel
theorem dX4_grinds_36 : decode cX4_grinds 36 = .ok (.invokevirtual 150, 3) := by decide +kernel
theorem dX4_grinds_39 : decode cX4_grinds 39 = .ok (.ireturn, 1) := by decide +kernel
theorem dX4_step_0 : decode cX4_step 0 = .ok (.aload_n 0, 1) := by decide +kernel
theorem dX4_step_1 : decode cX4_step 1 = .ok (.invokevirtual 154, 3) := by decide +kernel
theorem dX4_step_4 : decode cX4_step 4 = .ok (.ifCond .eq 6, 3) := by decide +kernel
theorem dX4_step_7 : decode cX4_step 7 = .ok (.bipush (-4), 2) := by decide +kernel
theorem dX4_step_9 : decode cX4_step 9 = .ok (.ireturn, 1) := by decide +kernel
theorem dX4_step_10 : decode cX4_step 10 = .ok (.aload_n 0, 1) := by decide +kernel
theorem dX4_step_11 : decode cX4_step 11 = .ok (.getfield 35, 3) := by decide +kernel
theorem dX4_step_14 : decode cX4_step 14 = .ok (.invokevirtual 157, 3) := by decide +kernel
theorem dX4_step_17 : decode cX4_step 17 = .ok (.ifCond .eq 6, 3) := by decide +kernel
theorem dX4_step_20 : decode cX4_step 20 = .ok (.bipush (-2), 2) := by decide +kernel
theorem dX4_step_22 : decode cX4_step 22 = .ok (.ireturn, 1) := by decide +kernel
theorem dX4_step_23 : decode cX4_step 23 = .ok (.aload_n 0, 1) := by decide +kernel
theorem dX4_step_24 : decode cX4_step 24 = .ok (.iconst 0, 1) := by decide +kernel
theorem dX4_step_25 : decode cX4_step 25 = .ok (.iconst 0, 1) := by decide +kernel
theorem dX4_step_26 : decode cX4_step 26 = .ok (.invokevirtual 160, 3) := by decide +kernel
theorem dX4_step_29 : decode cX4_step 29 = .ok (.istore_n 1, 1) := by decide +kernel
theorem dX4_step_30 : decode cX4_step 30 = .ok (.aload_n 0, 1) := by decide +kernel
theorem dX4_step_31 : decode cX4_step 31 = .ok (.aload_n 0, 1) := by decide +kernel
theorem dX4_step_32 : decode cX4_step 32 = .ok (.getfield 28, 3) := by decide +kernel
theorem dX4_step_35 : decode cX4_step 35 = .ok (.getfield 163, 3) := by decide +kernel
theorem dX4_step_38 : decode cX4_step 38 = .ok (.putfield 53, 3) := by decide +kernel
theorem dX4_step_41 : decode cX4_step 41 = .ok (.iload_n 1, 1) := by decide +kernel
theorem dX4_step_42 : decode cX4_step 42 = .ok (.ireturn, 1) := by decide +kernel
theorem dX4_hatch_0 : decode cX4_hatch 0 = .ok (.iload_n 1, 1) := by decide +kernel
theorem dX4_hatch_1 : decode cX4_hatch 1 = .ok (.iconst 0, 1) := by decide +kernel
theorem dX4_hatch_2 : decode cX4_hatch 2 = .ok (.iconst 4, 1) := by decide +kernel
theorem dX4_hatch_3 : decode cX4_hatch 3 = .ok (.invokestatic 133, 3) := by decide +kernel
theorem dX4_hatch_6 : decode cX4_hatch 6 = .ok (.ifCond .ne 5, 3) := by decide +kernel
theorem dX4_hatch_9 : decode cX4_hatch 9 = .ok (.iconst (-1), 1) := by decide +kernel
theorem dX4_hatch_10 : decode cX4_hatch 10 = .ok (.ireturn, 1) := by decide +kernel
theorem dX4_hatch_11 : decode cX4_hatch 11 = .ok (.aload_n 0, 1) := by decide +kernel
theorem dX4_hatch_12 : decode cX4_hatch 12 = .ok (.invokevirtual 154, 3) := by decide +kernel
theorem dX4_hatch_15 : decode cX4_hatch 15 = .ok (.ifCond .ne 14, 3) := by decide +kernel
theorem dX4_hatch_18 : decode cX4_hatch 18 = .ok (.aload_n 0, 1) := by decide +kernel
theorem dX4_hatch_19 : decode cX4_hatch 19 = .ok (.getfield 28, 3) := by decide +kernel
theorem dX4_hatch_22 : decode cX4_hatch 22 = .ok (.getfield 166, 3) := by decide +kernel
theorem dX4_hatch_25 : decode cX4_hatch 25 = .ok (.iload_n 1, 1) := by decide +kernel
theorem dX4_hatch_26 : decode cX4_hatch 26 = .ok (.if_icmp .ne 6, 3) := by decide +kernel
theorem dX4_hatch_29 : decode cX4_hatch 29 = .ok (.bipush (-4), 2) := by decide +kernel
theorem dX4_hatch_31 : decode cX4_hatch 31 = .ok (.ireturn, 1) := by decide +kernel
theorem dX4_hatch_32 : decode cX4_hatch 32 = .ok (.aload_n 0, 1) := by decide +kernel
theorem dX4_hatch_33 : decode cX4_hatch 33 = .ok (.getfield 35, 3) := by decide +kernel
theorem dX4_hatch_36 : decode cX4_hatch 36 = .ok (.invokevirtual 157, 3) := by decide +kernel
theorem dX4_hatch_39 : decode cX4_hatch 39 = .ok (.ifCond .eq 8, 3) := by decide +kernel
theorem dX4_hatch_42 : decode cX4_hatch 42 = .ok (.bipush (-2), 2) := by decide +kernel
theorem dX4_hatch_44 : decode cX4_hatch 44 = .ok (.goto 9, 3) := by decide +kernel
theorem dX4_hatch_47 : decode cX4_hatch 47 = .ok (.aload_n 0, 1) := by decide +kernel
theorem dX4_hatch_48 : decode cX4_hatch 48 = .ok (.iconst 2, 1) := by decide +kernel
theorem dX4_hatch_49 : decode cX4_hatch 49 = .ok (.iload_n 1, 1) := by decide +kernel
theorem dX4_hatch_50 : decode cX4_hatch 50 = .ok (.invokevirtual 160, 3) := by decide +kernel
theorem dX4_hatch_53 : decode cX4_hatch 53 = .ok (.ireturn, 1) := by decide +kernel
theorem dX4_rake_0 : decode cX4_rake 0 = .ok (.aload_n 0, 1) := by decide +kernel
theorem dX4_rake_1 : decode cX4_rake 1 = .ok (.invokevirtual 154, 3) := by decide +kernel
theorem dX4_rake_4 : decode cX4_rake 4 = .ok (.ifCond .ne 13, 3) := by decide +kernel
theorem dX4_rake_7 : decode cX4_rake 7 = .ok (.aload_n 0, 1) := by decide +kernel
theorem dX4_rake_8 : decode cX4_rake 8 = .ok (.getfield 28, 3) := by decide +kernel
theorem dX4_rake_11 : decode cX4_rake 11 = .ok (.getfield 169, 3) := by decide +kernel
theorem dX4_rake_14 : decode cX4_rake 14 = .ok (.ifCond .ne 6, 3) := by decide +kernel
theorem dX4_rake_17 : decode cX4_rake 17 = .ok (.bipush (-4), 2) := by decide +kernel
theorem dX4_rake_19 : decode cX4_rake 19 = .ok (.ireturn, 1) := by decide +kernel
theorem dX4_rake_20 : decode cX4_rake 20 = .ok (.aload_n 0, 1) := by decide +kernel
theorem dX4_rake_21 : decode cX4_rake 21 = .ok (.getfield 35, 3) := by decide +kernel
theorem dX4_rake_24 : decode cX4_rake 24 = .ok (.invokevirtual 157, 3) := by decide +kernel
theorem dX4_rake_27 : decode cX4_rake 27 = .ok (.ifCond .eq 8, 3) := by decide +kernel
theorem dX4_rake_30 : decode cX4_rake 30 = .ok (.bipush (-2), 2) := by decide +kernel
theorem dX4_rake_32 : decode cX4_rake 32 = .ok (.goto 9, 3) := by decide +kernel
theorem dX4_rake_35 : decode cX4_rake 35 = .ok (.aload_n 0, 1) := by decide +kernel
theorem dX4_rake_36 : decode cX4_rake 36 = .ok (.iconst 1, 1) := by decide +kernel
theorem dX4_rake_37 : decode cX4_rake 37 = .ok (.iconst 0, 1) := by decide +kernel
theorem dX4_rake_38 : decode cX4_rake 38 = .ok (.invokevirtual 160, 3) := by decide +kernel
theorem dX4_rake_41 : decode cX4_rake 41 = .ok (.ireturn, 1) := by decide +kernel
theorem dX4_fish_0 : decode cX4_fish 0 = .ok (.aload_n 0, 1) := by decide +kernel
theorem dX4_fish_1 : decode cX4_fish 1 = .ok (.iload_n 1, 1) := by decide +kernel
theorem dX4_fish_2 : decode cX4_fish 2 = .ok (.invokevirtual 130, 3) := by decide +kernel
theorem dX4_fish_5 : decode cX4_fish 5 = .ok (.ifCond .ne 5, 3) := by decide +kernel
theorem dX4_fish_8 : decode cX4_fish 8 = .ok (.iconst (-1), 1) := by decide +kernel
theorem dX4_fish_9 : decode cX4_fish 9 = .ok (.ireturn, 1) := by decide +kernel
theorem dX4_fish_10 : decode cX4_fish 10 = .ok (.aload_n 0, 1) := by decide +kernel
theorem dX4_fish_11 : decode cX4_fish 11 = .ok (.getfield 21, 3) := by decide +kernel
theorem dX4_fish_14 : decode cX4_fish 14 = .ok (.iload_n 1, 1) := by decide +kernel
theorem dX4_fish_15 : decode cX4_fish 15 = .ok (.invokevirtual 172, 3) := by decide +kernel
theorem dX4_fish_18 : decode cX4_fish 18 = .ok (.ifCond .eq 6, 3) := by decide +kernel
theorem dX4_fish_21 : decode cX4_fish 21 = .ok (.bipush (-4), 2) := by decide +kernel
theorem dX4_fish_23 : decode cX4_fish 23 = .ok (.ireturn, 1) := by decide +kernel
theorem dX4_fish_24 : decode cX4_fish 24 = .ok (.aload_n 0, 1) := by decide +kernel
theorem dX4_fish_25 : decode cX4_fish 25 = .ok (.getfield 35, 3) := by decide +kernel
theorem dX4_fish_28 : decode cX4_fish 28 = .ok (.invokevirtual 157, 3) := by decide +kernel
theorem dX4_fish_31 : decode cX4_fish 31 = .ok (.ifCond .eq 8, 3) := by decide +kernel
theorem dX4_fish_34 : decode cX4_fish 34 = .ok (.bipush (-2), 2) := by decide +kernel
theorem dX4_fish_36 : decode cX4_fish 36 = .ok (.goto 9, 3) := by decide +kernel
theorem dX4_fish_39 : decode cX4_fish 39 = .ok (.aload_n 0, 1) := by decide +kernel
theorem dX4_fish_40 : decode cX4_fish 40 = .ok (.iconst 3, 1) := by decide +kernel
theorem dX4_fish_41 : decode cX4_fish 41 = .ok (.iload_n 1, 1) := by decide +kernel
theorem dX4_fish_42 : decode cX4_fish 42 = .ok (.invokevirtual 160, 3) := by decide +kernel
theorem dX4_fish_45 : decode cX4_fish 45 = .ok (.ireturn, 1) := by decide +kernel
theorem dX4_undo_0 : decode cX4_undo 0 = .ok (.iload_n 1, 1) := by decide +kernel
theorem dX4_undo_1 : decode cX4_undo 1 = .ok (.iconst 0, 1) := by decide +kernel
theorem dX4_undo_2 : decode cX4_undo 2 = .ok (.aload_n 0, 1) := by decide +kernel
theorem dX4_undo_3 : decode cX4_undo 3 = .ok (.getfield 35, 3) := by decide +kernel
theorem dX4_undo_6 : decode cX4_undo 6 = .ok (.getfield 72, 3) := by decide +kernel
theorem dX4_undo_9 : decode cX4_undo 9 = .ok (.invokestatic 133, 3) := by decide +kernel
theorem dX4_undo_12 : decode cX4_undo 12 = .ok (.ifCond .ne 5, 3) := by decide +kernel
theorem dX4_undo_15 : decode cX4_undo 15 = .ok (.iconst (-1), 1) := by decide +kernel
theorem dX4_undo_16 : decode cX4_undo 16 = .ok (.ireturn, 1) := by decide +kernel
theorem dX4_undo_17 : decode cX4_undo 17 = .ok (.aload_n 0, 1) := by decide +kernel
theorem dX4_undo_18 : decode cX4_undo 18 = .ok (.getfield 35, 3) := by decide +kernel
theorem dX4_undo_21 : decode cX4_undo 21 = .ok (.getfield 72, 3) := by decide +kernel
theorem dX4_undo_24 : decode cX4_undo 24 = .ok (.iload_n 1, 1) := by decide +kernel
theorem dX4_undo_25 : decode cX4_undo 25 = .ok (.isub, 1) := by decide +kernel
theorem dX4_undo_26 : decode cX4_undo 26 = .ok (.istore_n 2, 1) := by decide +kernel
theorem dX4_undo_27 : decode cX4_undo 27 = .ok (.iload_n 2, 1) := by decide +kernel
theorem dX4_undo_28 : decode cX4_undo 28 = .ok (.ifCond .le 15, 3) := by decide +kernel
theorem dX4_undo_31 : decode cX4_undo 31 = .ok (.aload_n 0, 1) := by decide +kernel
theorem dX4_undo_32 : decode cX4_undo 32 = .ok (.getfield 35, 3) := by decide +kernel
theorem dX4_undo_35 : decode cX4_undo 35 = .ok (.iload_n 1, 1) := by decide +kernel
theorem dX4_undo_36 : decode cX4_undo 36 = .ok (.putfield 72, 3) := by decide +kernel
theorem dX4_undo_39 : decode cX4_undo 39 = .ok (.aload_n 0, 1) := by decide +kernel
theorem dX4_undo_40 : decode cX4_undo 40 = .ok (.invokevirtual 126, 3) := by decide +kernel
theorem dX4_undo_43 : decode cX4_undo 43 = .ok (.iload_n 2, 1) := by decide +kernel
theorem dX4_undo_44 : decode cX4_undo 44 = .ok (.ireturn, 1) := by decide +kernel
theorem dX4_keep_0 : decode cX4_keep 0 = .ok (.iload_n 1, 1) := by decide +kernel
theorem dX4_keep_1 : decode cX4_keep 1 = .ok (.invokestatic 175, 3) := by decide +kernel
theorem dX4_keep_4 : decode cX4_keep 4 = .ok (.ifCond .ne 5, 3) := by decide +kernel
theorem dX4_keep_7 : decode cX4_keep 7 = .ok (.iconst (-1), 1) := by decide +kernel
theorem dX4_keep_8 : decode cX4_keep 8 = .ok (.ireturn, 1) := by decide +kernel
theorem dX4_keep_9 : decode cX4_keep 9 = .ok (.aload_n 0, 1) := by decide +kernel
theorem dX4_keep_10 : decode cX4_keep 10 = .ok (.invokevirtual 154, 3) := by decide +kernel
theorem dX4_keep_13 : decode cX4_keep 13 = .ok (.ifCond .eq 6, 3) := by decide +kernel
theorem dX4_keep_16 : decode cX4_keep 16 = .ok (.bipush (-4), 2) := by decide +kernel
theorem dX4_keep_18 : decode cX4_keep 18 = .ok (.ireturn, 1) := by decide +kernel
theorem dX4_keep_19 : decode cX4_keep 19 = .ok (.aload_n 0, 1) := by decide +kernel
theorem dX4_keep_20 : decode cX4_keep 20 = .ok (.getfield 39, 3) := by decide +kernel
theorem dX4_keep_23 : decode cX4_keep 23 = .ok (.iload_n 1, 1) := by decide +kernel
theorem dX4_keep_24 : decode cX4_keep 24 = .ok (.aaload, 1) := by decide +kernel
theorem dX4_keep_25 : decode cX4_keep 25 = .ok (.aload_n 0, 1) := by decide +kernel
theorem dX4_keep_26 : decode cX4_keep 26 = .ok (.getfield 35, 3) := by decide +kernel
theorem dX4_keep_29 : decode cX4_keep 29 = .ok (.invokevirtual 178, 3) := by decide +kernel
theorem dX4_keep_32 : decode cX4_keep 32 = .ok (.aload_n 0, 1) := by decide +kernel
theorem dX4_keep_33 : decode cX4_keep 33 = .ok (.getfield 35, 3) := by decide +kernel
theorem dX4_keep_36 : decode cX4_keep 36 = .ok (.getfield 72, 3) := by decide +kernel
theorem dX4_keep_39 : decode cX4_keep 39 = .ok (.ireturn, 1) := by decide +kernel
theorem dX4_on_0 : decode cX4_on 0 = .ok (.iload_n 1, 1) := by decide +kernel
theorem dX4_on_1 : decode cX4_on 1 = .ok (.invokestatic 175, 3) := by decide +kernel
theorem dX4_on_4 : decode cX4_on 4 = .ok (.ifCond .ne 5, 3) := by decide +kernel
theorem dX4_on_7 : decode cX4_on 7 = .ok (.iconst (-1), 1) := by decide +kernel
theorem dX4_on_8 : decode cX4_on 8 = .ok (.ireturn, 1) := by decide +kernel
theorem dX4_on_9 : decode cX4_on 9 = .ok (.aload_n 0, 1) := by decide +kernel
theorem dX4_on_10 : decode cX4_on 10 = .ok (.getfield 39, 3) := by decide +kernel
theorem dX4_on_13 : decode cX4_on 13 = .ok (.iload_n 1, 1) := by decide +kernel
theorem dX4_on_14 : decode cX4_on 14 = .ok (.aaload, 1) := by decide +kernel
theorem dX4_on_15 : decode cX4_on 15 = .ok (.getfield 72, 3) := by decide +kernel
theorem dX4_on_18 : decode cX4_on 18 = .ok (.ifCond .ge 9, 3) := by decide +kernel
theorem dX4_on_21 : decode cX4_on 21 = .ok (.aload_n 0, 1) := by decide +kernel
theorem dX4_on_22 : decode cX4_on 22 = .ok (.iconst 1, 1) := by decide +kernel
theorem dX4_on_23 : decode cX4_on 23 = .ok (.invokevirtual 79, 3) := by decide +kernel
theorem dX4_on_26 : decode cX4_on 26 = .ok (.ireturn, 1) := by decide +kernel
theorem dX4_on_27 : decode cX4_on 27 = .ok (.aload_n 0, 1) := by decide +kernel
theorem dX4_on_28 : decode cX4_on 28 = .ok (.getfield 35, 3) := by decide +kernel
theorem dX4_on_31 : decode cX4_on 31 = .ok (.aload_n 0, 1) := by decide +kernel
theorem dX4_on_32 : decode cX4_on 32 = .ok (.getfield 39, 3) := by decide +kernel
theorem dX4_on_35 : decode cX4_on 35 = .ok (.iload_n 1, 1) := by decide +kernel
theorem dX4_on_36 : decode cX4_on 36 = .ok (.aaload, 1) := by decide +kernel
theorem dX4_on_37 : decode cX4_on 37 = .ok (.invokevirtual 178, 3) := by decide +kernel
theorem dX4_on_40 : decode cX4_on 40 = .ok (.aload_n 0, 1) := by decide +kernel
theorem dX4_on_41 : decode cX4_on 41 = .ok (.invokevirtual 126, 3) := by decide +kernel
theorem dX4_on_44 : decode cX4_on 44 = .ok (.aload_n 0, 1) := by decide +kernel
theorem dX4_on_45 : decode cX4_on 45 = .ok (.getfield 35, 3) := by decide +kernel
theorem dX4_on_48 : decode cX4_on 48 = .ok (.getfield 72, 3) := by decide +kernel
theorem dX4_on_51 : decode cX4_on 51 = .ok (.ireturn, 1) := by decide +kernel
theorem dX4_mill_0 : decode cX4_mill 0 = .ok (.iload_n 1, 1) := by decide +kernel
theorem dX4_mill_1 : decode cX4_mill 1 = .ok (.iconst 0, 1) := by decide +kernel
theorem dX4_mill_2 : decode cX4_mill 2 = .ok (.bipush 60, 2) := by decide +kernel
theorem dX4_mill_4 : decode cX4_mill 4 = .ok (.invokestatic 133, 3) := by decide +kernel
theorem dX4_mill_7 : decode cX4_mill 7 = .ok (.ifCond .ne 5, 3) := by decide +kernel
theorem dX4_mill_10 : decode cX4_mill 10 = .ok (.iconst (-1), 1) := by decide +kernel
theorem dX4_mill_11 : decode cX4_mill 11 = .ok (.ireturn, 1) := by decide +kernel
theorem dX4_mill_12 : decode cX4_mill 12 = .ok (.aload_n 0, 1) := by decide +kernel
theorem dX4_mill_13 : decode cX4_mill 13 = .ok (.invokevirtual 154, 3) := by decide +kernel
theorem dX4_mill_16 : decode cX4_mill 16 = .ok (.ifCond .eq 6, 3) := by decide +kernel
theorem dX4_mill_19 : decode cX4_mill 19 = .ok (.bipush (-4), 2) := by decide +kernel
theorem dX4_mill_21 : decode cX4_mill 21 = .ok (.ireturn, 1) := by decide +kernel
theorem dX4_mill_22 : decode cX4_mill 22 = .ok (.aload_n 0, 1) := by decide +kernel
theorem dX4_mill_23 : decode cX4_mill 23 = .ok (.invokevirtual 182, 3) := by decide +kernel
theorem dX4_mill_26 : decode cX4_mill 26 = .ok (.aload_n 0, 1) := by decide +kernel
theorem dX4_mill_27 : decode cX4_mill 27 = .ok (.iload_n 1, 1) := by decide +kernel
theorem dX4_mill_28 : decode cX4_mill 28 = .ok (.aload_n 0, 1) := by decide +kernel
theorem dX4_mill_29 : decode cX4_mill 29 = .ok (.getfield 21, 3) := by decide +kernel
theorem dX4_mill_32 : decode cX4_mill 32 = .ok (.invokevirtual 185, 3) := by decide +kernel
theorem dX4_mill_35 : decode cX4_mill 35 = .ok (.istore_n 2, 1) := by decide +kernel
theorem dX4_mill_36 : decode cX4_mill 36 = .ok (.aload_n 0, 1) := by decide +kernel
theorem dX4_mill_37 : decode cX4_mill 37 = .ok (.aload_n 0, 1) := by decide +kernel
theorem dX4_mill_38 : decode cX4_mill 38 = .ok (.getfield 46, 3) := by decide +kernel
theorem dX4_mill_41 : decode cX4_mill 41 = .ok (.getfield 163, 3) := by decide +kernel
theorem dX4_mill_44 : decode cX4_mill 44 = .ok (.putfield 53, 3) := by decide +kernel
theorem dX4_mill_47 : decode cX4_mill 47 = .ok (.iload_n 2, 1) := by decide +kernel
theorem dX4_mill_48 : decode cX4_mill 48 = .ok (.ireturn, 1) := by decide +kernel
theorem dX4_turns_0 : decode cX4_turns 0 = .ok (.aload_n 0, 1) := by decide +kernel
theorem dX4_turns_1 : decode cX4_turns 1 = .ok (.invokevirtual 154, 3) := by decide +kernel
theorem dX4_turns_4 : decode cX4_turns 4 = .ok (.ifCond .eq 6, 3) := by decide +kernel
theorem dX4_turns_7 : decode cX4_turns 7 = .ok (.bipush (-4), 2) := by decide +kernel
theorem dX4_turns_9 : decode cX4_turns 9 = .ok (.ireturn, 1) := by decide +kernel
theorem dX4_turns_10 : decode cX4_turns 10 = .ok (.aload_n 0, 1) := by decide +kernel
theorem dX4_turns_11 : decode cX4_turns 11 = .ok (.invokevirtual 182, 3) := by decide +kernel
theorem dX4_turns_14 : decode cX4_turns 14 = .ok (.iconst 1, 1) := by decide +kernel
theorem dX4_turns_15 : decode cX4_turns 15 = .ok (.istore_n 1, 1) := by decide +kernel
theorem dX4_turns_16 : decode cX4_turns 16 = .ok (.iload_n 1, 1) := by decide +kernel
theorem dX4_turns_17 : decode cX4_turns 17 = .ok (.bipush 60, 2) := by decide +kernel
theorem dX4_turns_19 : decode cX4_turns 19 = .ok (.if_icmp .gt 38, 3) := by decide +kernel
theorem dX4_turns_22 : decode cX4_turns 22 = .ok (.aload_n 0, 1) := by decide +kernel
theorem dX4_turns_23 : decode cX4_turns 23 = .ok (.getfield 46, 3) := by decide +kernel
theorem dX4_turns_26 : decode cX4_turns 26 = .ok (.getfield 163, 3) := by decide +kernel
theorem dX4_turns_29 : decode cX4_turns 29 = .ok (.istore_n 2, 1) := by decide +kernel
theorem dX4_turns_30 : decode cX4_turns 30 = .ok (.aload_n 0, 1) := by decide +kernel
theorem dX4_turns_31 : decode cX4_turns 31 = .ok (.getfield 46, 3) := by decide +kernel
theorem dX4_turns_34 : decode cX4_turns 34 = .ok (.aload_n 0, 1) := by decide +kernel
theorem dX4_turns_35 : decode cX4_turns 35 = .ok (.getfield 21, 3) := by decide +kernel
theorem dX4_turns_38 : decode cX4_turns 38 = .ok (.invokevirtual 189, 3) := by decide +kernel
theorem dX4_turns_41 : decode cX4_turns 41 = .ok (.ifCond .ne 10, 3) := by decide +kernel
theorem dX4_turns_44 : decode cX4_turns 44 = .ok (.aload_n 0, 1) := by decide +kernel
theorem dX4_turns_45 : decode cX4_turns 45 = .ok (.iload_n 2, 1) := by decide +kernel
theorem dX4_turns_46 : decode cX4_turns 46 = .ok (.putfield 53, 3) := by decide +kernel
theorem dX4_turns_49 : decode cX4_turns 49 = .ok (.iload_n 1, 1) := by decide +kernel
theorem dX4_turns_50 : decode cX4_turns 50 = .ok (.ireturn, 1) := by decide +kernel
theorem dX4_turns_51 : decode cX4_turns 51 = .ok (.iinc 1 1, 3) := by decide +kernel
theorem dX4_turns_54 : decode cX4_turns 54 = .ok (.goto (-38), 3) := by decide +kernel
theorem dX4_turns_57 : decode cX4_turns 57 = .ok (.bipush (-9), 2) := by decide +kernel
theorem dX4_turns_59 : decode cX4_turns 59 = .ok (.ireturn, 1) := by decide +kernel
theorem dX4_book_0 : decode cX4_book 0 = .ok (.iload_n 1, 1) := by decide +kernel
theorem dX4_book_1 : decode cX4_book 1 = .ok (.iconst 1, 1) := by decide +kernel
theorem dX4_book_2 : decode cX4_book 2 = .ok (.bipush 20, 2) := by decide +kernel
theorem dX4_book_4 : decode cX4_book 4 = .ok (.invokestatic 133, 3) := by decide +kernel
theorem dX4_book_7 : decode cX4_book 7 = .ok (.ifCond .eq 10, 3) := by decide +kernel
theorem dX4_book_10 : decode cX4_book 10 = .ok (.iload_n 2, 1) := by decide +kernel
theorem dX4_book_11 : decode cX4_book 11 = .ok (.invokestatic 75, 3) := by decide +kernel
theorem dX4_book_14 : decode cX4_book 14 = .ok (.ifCond .ne 5, 3) := by decide +kernel
theorem dX4_book_17 : decode cX4_book 17 = .ok (.iconst (-1), 1) := by decide +kernel
theorem dX4_book_18 : decode cX4_book 18 = .ok (.ireturn, 1) := by decide +kernel
theorem dX4_book_19 : decode cX4_book 19 = .ok (.aload_n 0, 1) := by decide +kernel
theorem dX4_book_20 : decode cX4_book 20 = .ok (.invokevirtual 154, 3) := by decide +kernel
theorem dX4_book_23 : decode cX4_book 23 = .ok (.ifCond .eq 6, 3) := by decide +kernel
theorem dX4_book_26 : decode cX4_book 26 = .ok (.bipush (-4), 2) := by decide +kernel
theorem dX4_book_28 : decode cX4_book 28 = .ok (.ireturn, 1) := by decide +kernel
theorem dX4_book_29 : decode cX4_book 29 = .ok (.aload_n 0, 1) := by decide +kernel
theorem dX4_book_30 : decode cX4_book 30 = .ok (.getfield 11, 3) := by decide +kernel
theorem dX4_book_33 : decode cX4_book 33 = .ok (.iload_n 2, 1) := by decide +kernel
theorem dX4_book_34 : decode cX4_book 34 = .ok (.aaload, 1) := by decide +kernel
theorem dX4_book_35 : decode cX4_book 35 = .ok (.iload_n 1, 1) := by decide +kernel
theorem dX4_book_36 : decode cX4_book 36 = .ok (.iconst 0, 1) := by decide +kernel
theorem dX4_book_37 : decode cX4_book 37 = .ok (.invokevirtual 83, 3) := by decide +kernel
theorem dX4_book_40 : decode cX4_book 40 = .ok (.aload_n 0, 1) := by decide +kernel
theorem dX4_book_41 : decode cX4_book 41 = .ok (.invokevirtual 182, 3) := by decide +kernel
theorem dX4_book_44 : decode cX4_book 44 = .ok (.iconst 0, 1) := by decide +kernel
theorem dX4_book_45 : decode cX4_book 45 = .ok (.istore_n 3, 1) := by decide +kernel
theorem dX4_book_46 : decode cX4_book 46 = .ok (.iconst 0, 1) := by decide +kernel
theorem dX4_book_47 : decode cX4_book 47 = .ok (.istore 4, 2) := by decide +kernel
theorem dX4_book_49 : decode cX4_book 49 = .ok (.iload 4, 2) := by decide +kernel
theorem dX4_book_51 : decode cX4_book 51 = .ok (.iload_n 1, 1) := by decide +kernel
theorem dX4_book_52 : decode cX4_book 52 = .ok (.if_icmp .ge 44, 3) := by decide +kernel
theorem dX4_book_55 : decode cX4_book 55 = .ok (.aload_n 0, 1) := by decide +kernel
theorem dX4_book_56 : decode cX4_book 56 = .ok (.getfield 46, 3) := by decide +kernel
theorem dX4_book_59 : decode cX4_book 59 = .ok (.aload_n 0, 1) := by decide +kernel
theorem dX4_book_60 : decode cX4_book 60 = .ok (.getfield 21, 3) := by decide +kernel
theorem dX4_book_63 : decode cX4_book 63 = .ok (.invokevirtual 189, 3) := by decide +kernel
theorem dX4_book_66 : decode cX4_book 66 = .ok (.istore 5, 2) := by decide +kernel
theorem dX4_book_68 : decode cX4_book 68 = .ok (.aload_n 0, 1) := by decide +kernel
theorem dX4_book_69 : decode cX4_book 69 = .ok (.getfield 11, 3) := by decide +kernel
theorem dX4_book_72 : decode cX4_book 72 = .ok (.iload_n 2, 1) := by decide +kernel
theorem dX4_book_73 : decode cX4_book 73 = .ok (.aaload, 1) := by decide +kernel
theorem dX4_book_74 : decode cX4_book 74 = .ok (.getfield 91, 3) := by decide +kernel
theorem dX4_book_77 : decode cX4_book 77 = .ok (.iload 4, 2) := by decide +kernel
theorem dX4_book_79 : decode cX4_book 79 = .ok (.iload 5, 2) := by decide +kernel
theorem dX4_book_81 : decode cX4_book 81 = .ok (.iastore, 1) := by decide +kernel
theorem dX4_book_82 : decode cX4_book 82 = .ok (.iload 5, 2) := by decide +kernel
theorem dX4_book_84 : decode cX4_book 84 = .ok (.ifCond .ne 6, 3) := by decide +kernel
theorem dX4_book_87 : decode cX4_book 87 = .ok (.iinc 3 1, 3) := by decide +kernel
theorem dX4_book_90 : decode cX4_book 90 = .ok (.iinc 4 1, 3) := by decide +kernel
theorem dX4_book_93 : decode cX4_book 93 = .ok (.goto (-44), 3) := by decide +kernel
theorem dX4_book_96 : decode cX4_book 96 = .ok (.iload_n 3, 1) := by decide +kernel
theorem dX4_book_97 : decode cX4_book 97 = .ok (.ireturn, 1) := by decide +kernel
theorem dX4_best_0 : decode cX4_best 0 = .ok (.iload_n 1, 1) := by decide +kernel
theorem dX4_best_1 : decode cX4_best 1 = .ok (.iconst 1, 1) := by decide +kernel
theorem dX4_best_2 : decode cX4_best 2 = .ok (.bipush 20, 2) := by decide +kernel
theorem dX4_best_4 : decode cX4_best 4 = .ok (.invokestatic 133, 3) := by decide +kernel
theorem dX4_best_7 : decode cX4_best 7 = .ok (.ifCond .ne 5, 3) := by decide +kernel
theorem dX4_best_10 : decode cX4_best 10 = .ok (.iconst (-1), 1) := by decide +kernel
theorem dX4_best_11 : decode cX4_best 11 = .ok (.ireturn, 1) := by decide +kernel
theorem dX4_best_12 : decode cX4_best 12 = .ok (.aload_n 0, 1) := by decide +kernel
theorem dX4_best_13 : decode cX4_best 13 = .ok (.invokevirtual 154, 3) := by decide +kernel
theorem dX4_best_16 : decode cX4_best 16 = .ok (.ifCond .eq 6, 3) := by decide +kernel
theorem dX4_best_19 : decode cX4_best 19 = .ok (.bipush (-4), 2) := by decide +kernel
theorem dX4_best_21 : decode cX4_best 21 = .ok (.ireturn, 1) := by decide +kernel
theorem dX4_best_22 : decode cX4_best 22 = .ok (.iconst 0, 1) := by decide +kernel
theorem dX4_best_23 : decode cX4_best 23 = .ok (.istore_n 2, 1) := by decide +kernel
theorem dX4_best_24 : decode cX4_best 24 = .ok (.iconst (-1), 1) := by decide +kernel
theorem dX4_best_25 : decode cX4_best 25 = .ok (.istore_n 3, 1) := by decide +kernel
theorem dX4_best_26 : decode cX4_best 26 = .ok (.iconst 0, 1) := by decide +kernel
theorem dX4_best_27 : decode cX4_best 27 = .ok (.istore 4, 2) := by decide +kernel
theorem dX4_best_29 : decode cX4_best 29 = .ok (.iload 4, 2) := by decide +kernel
theorem dX4_best_31 : decode cX4_best 31 = .ok (.iconst 4, 1) := by decide +kernel
theorem dX4_best_32 : decode cX4_best 32 = .ok (.if_icmp .gt 45, 3) := by decide +kernel
theorem dX4_best_35 : decode cX4_best 35 = .ok (.aload_n 0, 1) := by decide +kernel
theorem dX4_best_36 : decode cX4_best 36 = .ok (.invokevirtual 182, 3) := by decide +kernel
theorem dX4_best_39 : decode cX4_best 39 = .ok (.aload_n 0, 1) := by decide +kernel
theorem dX4_best_40 : decode cX4_best 40 = .ok (.getfield 46, 3) := by decide +kernel
theorem dX4_best_43 : decode cX4_best 43 = .ok (.iload 4, 2) := by decide +kernel
theorem dX4_best_45 : decode cX4_best 45 = .ok (.putfield 166, 3) := by decide +kernel
theorem dX4_best_48 : decode cX4_best 48 = .ok (.aload_n 0, 1) := by decide +kernel
theorem dX4_best_49 : decode cX4_best 49 = .ok (.iload_n 1, 1) := by decide +kernel
theorem dX4_best_50 : decode cX4_best 50 = .ok (.aload_n 0, 1) := by decide +kernel
theorem dX4_best_51 : decode cX4_best 51 = .ok (.getfield 21, 3) := by decide +kernel
theorem dX4_best_54 : decode cX4_best 54 = .ok (.invokevirtual 185, 3) := by decide +kernel
theorem dX4_best_57 : decode cX4_best 57 = .ok (.istore 5, 2) := by decide +kernel
theorem dX4_best_59 : decode cX4_best 59 = .ok (.iload 5, 2) := by decide +kernel
theorem dX4_best_61 : decode cX4_best 61 = .ok (.iload_n 3, 1) := by decide +kernel
theorem dX4_best_62 : decode cX4_best 62 = .ok (.if_icmp .le 9, 3) := by decide +kernel
theorem dX4_best_65 : decode cX4_best 65 = .ok (.iload 5, 2) := by decide +kernel
theorem dX4_best_67 : decode cX4_best 67 = .ok (.istore_n 3, 1) := by decide +kernel
theorem dX4_best_68 : decode cX4_best 68 = .ok (.iload 4, 2) := by decide +kernel
theorem dX4_best_70 : decode cX4_best 70 = .ok (.istore_n 2, 1) := by decide +kernel
theorem dX4_best_71 : decode cX4_best 71 = .ok (.iinc 4 1, 3) := by decide +kernel
theorem dX4_best_74 : decode cX4_best 74 = .ok (.goto (-45), 3) := by decide +kernel
theorem dX4_best_77 : decode cX4_best 77 = .ok (.aload_n 0, 1) := by decide +kernel
theorem dX4_best_78 : decode cX4_best 78 = .ok (.iload_n 3, 1) := by decide +kernel
theorem dX4_best_79 : decode cX4_best 79 = .ok (.putfield 53, 3) := by decide +kernel
theorem dX4_best_82 : decode cX4_best 82 = .ok (.iload_n 2, 1) := by decide +kernel
theorem dX4_best_83 : decode cX4_best 83 = .ok (.ireturn, 1) := by decide +kernel
theorem dX4_plan_0 : decode cX4_plan 0 = .ok (.iload_n 1, 1) := by decide +kernel
theorem dX4_plan_1 : decode cX4_plan 1 = .ok (.iconst 1, 1) := by decide +kernel
theorem dX4_plan_2 : decode cX4_plan 2 = .ok (.iconst 5, 1) := by decide +kernel
theorem dX4_plan_3 : decode cX4_plan 3 = .ok (.invokestatic 133, 3) := by decide +kernel
theorem dX4_plan_6 : decode cX4_plan 6 = .ok (.ifCond .eq 10, 3) := by decide +kernel
theorem dX4_plan_9 : decode cX4_plan 9 = .ok (.iload_n 2, 1) := by decide +kernel
theorem dX4_plan_10 : decode cX4_plan 10 = .ok (.invokestatic 75, 3) := by decide +kernel
theorem dX4_plan_13 : decode cX4_plan 13 = .ok (.ifCond .ne 5, 3) := by decide +kernel
theorem dX4_plan_16 : decode cX4_plan 16 = .ok (.iconst (-1), 1) := by decide +kernel
theorem dX4_plan_17 : decode cX4_plan 17 = .ok (.ireturn, 1) := by decide +kernel
theorem dX4_plan_18 : decode cX4_plan 18 = .ok (.aload_n 0, 1) := by decide +kernel
theorem dX4_plan_19 : decode cX4_plan 19 = .ok (.invokevirtual 154, 3) := by decide +kernel
theorem dX4_plan_22 : decode cX4_plan 22 = .ok (.ifCond .eq 6, 3) := by decide +kernel
theorem dX4_plan_25 : decode cX4_plan 25 = .ok (.bipush (-4), 2) := by decide +kernel
theorem dX4_plan_27 : decode cX4_plan 27 = .ok (.ireturn, 1) := by decide +kernel
theorem dX4_plan_28 : decode cX4_plan 28 = .ok (.aload_n 0, 1) := by decide +kernel
theorem dX4_plan_29 : decode cX4_plan 29 = .ok (.getfield 11, 3) := by decide +kernel
theorem dX4_plan_32 : decode cX4_plan 32 = .ok (.iload_n 2, 1) := by decide +kernel
theorem dX4_plan_33 : decode cX4_plan 33 = .ok (.aaload, 1) := by decide +kernel
theorem dX4_plan_34 : decode cX4_plan 34 = .ok (.iload_n 1, 1) := by decide +kernel
theorem dX4_plan_35 : decode cX4_plan 35 = .ok (.iconst 0, 1) := by decide +kernel
theorem dX4_plan_36 : decode cX4_plan 36 = .ok (.invokevirtual 83, 3) := by decide +kernel
theorem dX4_plan_39 : decode cX4_plan 39 = .ok (.aload_n 0, 1) := by decide +kernel
theorem dX4_plan_40 : decode cX4_plan 40 = .ok (.invokevirtual 182, 3) := by decide +kernel
theorem dX4_plan_43 : decode cX4_plan 43 = .ok (.iconst 0, 1) := by decide +kernel
theorem dX4_plan_44 : decode cX4_plan 44 = .ok (.istore_n 3, 1) := by decide +kernel
theorem dX4_plan_45 : decode cX4_plan 45 = .ok (.iload_n 3, 1) := by decide +kernel
theorem dX4_plan_46 : decode cX4_plan 46 = .ok (.iload_n 1, 1) := by decide +kernel
theorem dX4_plan_47 : decode cX4_plan 47 = .ok (.if_icmp .ge 54, 3) := by decide +kernel
theorem dX4_plan_50 : decode cX4_plan 50 = .ok (.aload_n 0, 1) := by decide +kernel
theorem dX4_plan_51 : decode cX4_plan 51 = .ok (.iload_n 1, 1) := by decide +kernel
theorem dX4_plan_52 : decode cX4_plan 52 = .ok (.iload_n 3, 1) := by decide +kernel
theorem dX4_plan_53 : decode cX4_plan 53 = .ok (.isub, 1) := by decide +kernel
theorem dX4_plan_54 : decode cX4_plan 54 = .ok (.iconst 1, 1) := by decide +kernel
theorem dX4_plan_55 : decode cX4_plan 55 = .ok (.isub, 1) := by decide +kernel
theorem dX4_plan_56 : decode cX4_plan 56 = .ok (.invokevirtual 193, 3) := by decide +kernel
theorem dX4_plan_59 : decode cX4_plan 59 = .ok (.istore 4, 2) := by decide +kernel
theorem dX4_plan_61 : decode cX4_plan 61 = .ok (.aload_n 0, 1) := by decide +kernel
theorem dX4_plan_62 : decode cX4_plan 62 = .ok (.getfield 11, 3) := by decide +kernel
theorem dX4_plan_65 : decode cX4_plan 65 = .ok (.iload_n 2, 1) := by decide +kernel
theorem dX4_plan_66 : decode cX4_plan 66 = .ok (.aaload, 1) := by decide +kernel
theorem dX4_plan_67 : decode cX4_plan 67 = .ok (.getfield 91, 3) := by decide +kernel
theorem dX4_plan_70 : decode cX4_plan 70 = .ok (.iload_n 3, 1) := by decide +kernel
theorem dX4_plan_71 : decode cX4_plan 71 = .ok (.iload 4, 2) := by decide +kernel
theorem dX4_plan_73 : decode cX4_plan 73 = .ok (.iastore, 1) := by decide +kernel
theorem dX4_plan_74 : decode cX4_plan 74 = .ok (.aload_n 0, 1) := by decide +kernel
theorem dX4_plan_75 : decode cX4_plan 75 = .ok (.getfield 46, 3) := by decide +kernel
theorem dX4_plan_78 : decode cX4_plan 78 = .ok (.iload 4, 2) := by decide +kernel
theorem dX4_plan_80 : decode cX4_plan 80 = .ok (.putfield 166, 3) := by decide +kernel
theorem dX4_plan_83 : decode cX4_plan 83 = .ok (.aload_n 0, 1) := by decide +kernel
theorem dX4_plan_84 : decode cX4_plan 84 = .ok (.getfield 46, 3) := by decide +kernel
theorem dX4_plan_87 : decode cX4_plan 87 = .ok (.aload_n 0, 1) := by decide +kernel
theorem dX4_plan_88 : decode cX4_plan 88 = .ok (.getfield 21, 3) := by decide +kernel
theorem dX4_plan_91 : decode cX4_plan 91 = .ok (.invokevirtual 189, 3) := by decide +kernel
theorem dX4_plan_94 : decode cX4_plan 94 = .ok (.pop, 1) := by decide +kernel
theorem dX4_plan_95 : decode cX4_plan 95 = .ok (.iinc 3 1, 3) := by decide +kernel
theorem dX4_plan_98 : decode cX4_plan 98 = .ok (.goto (-53), 3) := by decide +kernel
theorem dX4_plan_101 : decode cX4_plan 101 = .ok (.aload_n 0, 1) := by decide +kernel
theorem dX4_plan_102 : decode cX4_plan 102 = .ok (.getfield 46, 3) := by decide +kernel
theorem dX4_plan_105 : decode cX4_plan 105 = .ok (.getfield 196, 3) := by decide +kernel
theorem dX4_plan_108 : decode cX4_plan 108 = .ok (.ireturn, 1) := by decide +kernel
theorem dX4_rakes_0 : decode cX4_rakes 0 = .ok (.iload_n 1, 1) := by decide +kernel
theorem dX4_rakes_1 : decode cX4_rakes 1 = .ok (.iconst 1, 1) := by decide +kernel
theorem dX4_rakes_2 : decode cX4_rakes 2 = .ok (.bipush 8, 2) := by decide +kernel
theorem dX4_rakes_4 : decode cX4_rakes 4 = .ok (.invokestatic 133, 3) := by decide +kernel
theorem dX4_rakes_7 : decode cX4_rakes 7 = .ok (.ifCond .eq 14, 3) := by decide +kernel
theorem dX4_rakes_10 : decode cX4_rakes 10 = .ok (.iload_n 2, 1) := by decide +kernel
theorem dX4_rakes_11 : decode cX4_rakes 11 = .ok (.iconst 0, 1) := by decide +kernel
theorem dX4_rakes_12 : decode cX4_rakes 12 = .ok (.sipush 400, 3) := by decide +kernel
theorem dX4_rakes_15 : decode cX4_rakes 15 = .ok (.invokestatic 133, 3) := by decide +kernel
theorem dX4_rakes_18 : decode cX4_rakes 18 = .ok (.ifCond .ne 5, 3) := by decide +kernel
theorem dX4_rakes_21 : decode cX4_rakes 21 = .ok (.iconst (-1), 1) := by decide +kernel
theorem dX4_rakes_22 : decode cX4_rakes 22 = .ok (.ireturn, 1) := by decide +kernel
theorem dX4_rakes_23 : decode cX4_rakes 23 = .ok (.aload_n 0, 1) := by decide +kernel
theorem dX4_rakes_24 : decode cX4_rakes 24 = .ok (.invokevirtual 154, 3) := by decide +kernel
theorem dX4_rakes_27 : decode cX4_rakes 27 = .ok (.ifCond .eq 6, 3) := by decide +kernel
theorem dX4_rakes_30 : decode cX4_rakes 30 = .ok (.bipush (-4), 2) := by decide +kernel
theorem dX4_rakes_32 : decode cX4_rakes 32 = .ok (.ireturn, 1) := by decide +kernel
theorem dX4_rakes_33 : decode cX4_rakes 33 = .ok (.iload_n 1, 1) := by decide +kernel
theorem dX4_rakes_34 : decode cX4_rakes 34 = .ok (.iconst 1, 1) := by decide +kernel
theorem dX4_rakes_35 : decode cX4_rakes 35 = .ok (.iadd, 1) := by decide +kernel
theorem dX4_rakes_36 : decode cX4_rakes 36 = .ok (.istore_n 3, 1) := by decide +kernel
theorem dX4_rakes_37 : decode cX4_rakes 37 = .ok (.iconst 0, 1) := by decide +kernel
theorem dX4_rakes_38 : decode cX4_rakes 38 = .ok (.istore 4, 2) := by decide +kernel
theorem dX4_rakes_40 : decode cX4_rakes 40 = .ok (.iconst 0, 1) := by decide +kernel
theorem dX4_rakes_41 : decode cX4_rakes 41 = .ok (.istore 5, 2) := by decide +kernel
theorem dX4_rakes_43 : decode cX4_rakes 43 = .ok (.iload 5, 2) := by decide +kernel
theorem dX4_rakes_45 : decode cX4_rakes 45 = .ok (.iconst 1, 1) := by decide +kernel
theorem dX4_rakes_46 : decode cX4_rakes 46 = .ok (.iload_n 1, 1) := by decide +kernel
theorem dX4_rakes_47 : decode cX4_rakes 47 = .ok (.ishl, 1) := by decide +kernel
theorem dX4_rakes_48 : decode cX4_rakes 48 = .ok (.if_icmp .ge 40, 3) := by decide +kernel
theorem dX4_rakes_51 : decode cX4_rakes 51 = .ok (.iload 5, 2) := by decide +kernel
theorem dX4_rakes_53 : decode cX4_rakes 53 = .ok (.invokestatic 199, 3) := by decide +kernel
theorem dX4_rakes_56 : decode cX4_rakes 56 = .ok (.istore 6, 2) := by decide +kernel
theorem dX4_rakes_58 : decode cX4_rakes 58 = .ok (.iload 6, 2) := by decide +kernel
theorem dX4_rakes_60 : decode cX4_rakes 60 = .ok (.iload_n 3, 1) := by decide +kernel
theorem dX4_rakes_61 : decode cX4_rakes 61 = .ok (.if_icmp .ge 21, 3) := by decide +kernel
theorem dX4_rakes_64 : decode cX4_rakes 64 = .ok (.aload_n 0, 1) := by decide +kernel
theorem dX4_rakes_65 : decode cX4_rakes 65 = .ok (.iload_n 1, 1) := by decide +kernel
theorem dX4_rakes_66 : decode cX4_rakes 66 = .ok (.iload 5, 2) := by decide +kernel
theorem dX4_rakes_68 : decode cX4_rakes 68 = .ok (.invokevirtual 204, 3) := by decide +kernel
theorem dX4_rakes_71 : decode cX4_rakes 71 = .ok (.iload_n 2, 1) := by decide +kernel
theorem dX4_rakes_72 : decode cX4_rakes 72 = .ok (.if_icmp .lt 10, 3) := by decide +kernel
theorem dX4_rakes_75 : decode cX4_rakes 75 = .ok (.iload 6, 2) := by decide +kernel
theorem dX4_rakes_77 : decode cX4_rakes 77 = .ok (.istore_n 3, 1) := by decide +kernel
theorem dX4_rakes_78 : decode cX4_rakes 78 = .ok (.iload 5, 2) := by decide +kernel
theorem dX4_rakes_80 : decode cX4_rakes 80 = .ok (.istore 4, 2) := by decide +kernel
theorem dX4_rakes_82 : decode cX4_rakes 82 = .ok (.iinc 5 1, 3) := by decide +kernel
theorem dX4_rakes_85 : decode cX4_rakes 85 = .ok (.goto (-42), 3) := by decide +kernel
theorem dX4_rakes_88 : decode cX4_rakes 88 = .ok (.iload_n 3, 1) := by decide +kernel
theorem dX4_rakes_89 : decode cX4_rakes 89 = .ok (.iload_n 1, 1) := by decide +kernel
theorem dX4_rakes_90 : decode cX4_rakes 90 = .ok (.if_icmp .le 6, 3) := by decide +kernel
theorem dX4_rakes_93 : decode cX4_rakes 93 = .ok (.bipush (-9), 2) := by decide +kernel
theorem dX4_rakes_95 : decode cX4_rakes 95 = .ok (.ireturn, 1) := by decide +kernel
theorem dX4_rakes_96 : decode cX4_rakes 96 = .ok (.aload_n 0, 1) := by decide +kernel
theorem dX4_rakes_97 : decode cX4_rakes 97 = .ok (.iload 4, 2) := by decide +kernel
theorem dX4_rakes_99 : decode cX4_rakes 99 = .ok (.putfield 53, 3) := by decide +kernel
theorem dX4_rakes_102 : decode cX4_rakes 102 = .ok (.iload_n 3, 1) := by decide +kernel
theorem dX4_rakes_103 : decode cX4_rakes 103 = .ok (.ireturn, 1) := by decide +kernel
theorem dX4_fishes_0 : decode cX4_fishes 0 = .ok (.iload_n 1, 1) := by decide +kernel
theorem dX4_fishes_1 : decode cX4_fishes 1 = .ok (.iconst 1, 1) := by decide +kernel
theorem dX4_fishes_2 : decode cX4_fishes 2 = .ok (.bipush 20, 2) := by decide +kernel
theorem dX4_fishes_4 : decode cX4_fishes 4 = .ok (.invokestatic 133, 3) := by decide +kernel
theorem dX4_fishes_7 : decode cX4_fishes 7 = .ok (.ifCond .ne 5, 3) := by decide +kernel
theorem dX4_fishes_10 : decode cX4_fishes 10 = .ok (.iconst (-1), 1) := by decide +kernel
theorem dX4_fishes_11 : decode cX4_fishes 11 = .ok (.ireturn, 1) := by decide +kernel
theorem dX4_fishes_12 : decode cX4_fishes 12 = .ok (.aload_n 0, 1) := by decide +kernel
theorem dX4_fishes_13 : decode cX4_fishes 13 = .ok (.invokevirtual 154, 3) := by decide +kernel
theorem dX4_fishes_16 : decode cX4_fishes 16 = .ok (.ifCond .eq 6, 3) := by decide +kernel
theorem dX4_fishes_19 : decode cX4_fishes 19 = .ok (.bipush (-4), 2) := by decide +kernel
theorem dX4_fishes_21 : decode cX4_fishes 21 = .ok (.ireturn, 1) := by decide +kernel
theorem dX4_fishes_22 : decode cX4_fishes 22 = .ok (.aload_n 0, 1) := by decide +kernel
theorem dX4_fishes_23 : decode cX4_fishes 23 = .ok (.invokevirtual 182, 3) := by decide +kernel
theorem dX4_fishes_26 : decode cX4_fishes 26 = .ok (.aload_n 0, 1) := by decide +kernel
theorem dX4_fishes_27 : decode cX4_fishes 27 = .ok (.iload_n 1, 1) := by decide +kernel
theorem dX4_fishes_28 : decode cX4_fishes 28 = .ok (.aload_n 0, 1) := by decide +kernel
theorem dX4_fishes_29 : decode cX4_fishes 29 = .ok (.getfield 21, 3) := by decide +kernel
theorem dX4_fishes_32 : decode cX4_fishes 32 = .ok (.invokevirtual 185, 3) := by decide +kernel
theorem dX4_fishes_35 : decode cX4_fishes 35 = .ok (.istore_n 2, 1) := by decide +kernel
theorem dX4_fishes_36 : decode cX4_fishes 36 = .ok (.bipush (-9), 2) := by decide +kernel
theorem dX4_fishes_38 : decode cX4_fishes 38 = .ok (.istore_n 3, 1) := by decide +kernel
theorem dX4_fishes_39 : decode cX4_fishes 39 = .ok (.iconst 0, 1) := by decide +kernel
theorem dX4_fishes_40 : decode cX4_fishes 40 = .ok (.istore 4, 2) := by decide +kernel
theorem dX4_fishes_42 : decode cX4_fishes 42 = .ok (.iload 4, 2) := by decide +kernel
theorem dX4_fishes_44 : decode cX4_fishes 44 = .ok (.aload_n 0, 1) := by decide +kernel
theorem dX4_fishes_45 : decode cX4_fishes 45 = .ok (.getfield 21, 3) := by decide +kernel
theorem dX4_fishes_48 : decode cX4_fishes 48 = .ok (.getfield 129, 3) := by decide +kernel
theorem dX4_fishes_51 : decode cX4_fishes 51 = .ok (.if_icmp .ge 56, 3) := by decide +kernel
theorem dX4_fishes_54 : decode cX4_fishes 54 = .ok (.aload_n 0, 1) := by decide +kernel
theorem dX4_fishes_55 : decode cX4_fishes 55 = .ok (.getfield 43, 3) := by decide +kernel
theorem dX4_fishes_58 : decode cX4_fishes 58 = .ok (.aload_n 0, 1) := by decide +kernel
theorem dX4_fishes_59 : decode cX4_fishes 59 = .ok (.getfield 21, 3) := by decide +kernel
theorem dX4_fishes_62 : decode cX4_fishes 62 = .ok (.invokevirtual 207, 3) := by decide +kernel
theorem dX4_fishes_65 : decode cX4_fishes 65 = .ok (.aload_n 0, 1) := by decide +kernel
theorem dX4_fishes_66 : decode cX4_fishes 66 = .ok (.getfield 43, 3) := by decide +kernel
theorem dX4_fishes_69 : decode cX4_fishes 69 = .ok (.iload 4, 2) := by decide +kernel
theorem dX4_fishes_71 : decode cX4_fishes 71 = .ok (.invokevirtual 210, 3) := by decide +kernel
theorem dX4_fishes_74 : decode cX4_fishes 74 = .ok (.aload_n 0, 1) := by decide +kernel
theorem dX4_fishes_75 : decode cX4_fishes 75 = .ok (.invokevirtual 182, 3) := by decide +kernel
theorem dX4_fishes_78 : decode cX4_fishes 78 = .ok (.aload_n 0, 1) := by decide +kernel
theorem dX4_fishes_79 : decode cX4_fishes 79 = .ok (.iload_n 1, 1) := by decide +kernel
theorem dX4_fishes_80 : decode cX4_fishes 80 = .ok (.aload_n 0, 1) := by decide +kernel
theorem dX4_fishes_81 : decode cX4_fishes 81 = .ok (.getfield 43, 3) := by decide +kernel
theorem dX4_fishes_84 : decode cX4_fishes 84 = .ok (.invokevirtual 185, 3) := by decide +kernel
theorem dX4_fishes_87 : decode cX4_fishes 87 = .ok (.istore 5, 2) := by decide +kernel
theorem dX4_fishes_89 : decode cX4_fishes 89 = .ok (.iload 5, 2) := by decide +kernel
theorem dX4_fishes_91 : decode cX4_fishes 91 = .ok (.iload_n 2, 1) := by decide +kernel
theorem dX4_fishes_92 : decode cX4_fishes 92 = .ok (.if_icmp .le 9, 3) := by decide +kernel
theorem dX4_fishes_95 : decode cX4_fishes 95 = .ok (.iload 5, 2) := by decide +kernel
theorem dX4_fishes_97 : decode cX4_fishes 97 = .ok (.istore_n 2, 1) := by decide +kernel
theorem dX4_fishes_98 : decode cX4_fishes 98 = .ok (.iload 4, 2) := by decide +kernel
theorem dX4_fishes_100 : decode cX4_fishes 100 = .ok (.istore_n 3, 1) := by decide +kernel
theorem dX4_fishes_101 : decode cX4_fishes 101 = .ok (.iinc 4 1, 3) := by decide +kernel
theorem dX4_fishes_104 : decode cX4_fishes 104 = .ok (.goto (-62), 3) := by decide +kernel
theorem dX4_fishes_107 : decode cX4_fishes 107 = .ok (.iload_n 3, 1) := by decide +kernel
theorem dX4_fishes_108 : decode cX4_fishes 108 = .ok (.bipush (-9), 2) := by decide +kernel
theorem dX4_fishes_110 : decode cX4_fishes 110 = .ok (.if_icmp .eq 8, 3) := by decide +kernel
theorem dX4_fishes_113 : decode cX4_fishes 113 = .ok (.aload_n 0, 1) := by decide +kernel
theorem dX4_fishes_114 : decode cX4_fishes 114 = .ok (.iload_n 2, 1) := by decide +kernel
theorem dX4_fishes_115 : decode cX4_fishes 115 = .ok (.putfield 53, 3) := by decide +kernel
theorem dX4_fishes_118 : decode cX4_fishes 118 = .ok (.iload_n 3, 1) := by decide +kernel
theorem dX4_fishes_119 : decode cX4_fishes 119 = .ok (.ireturn, 1) := by decide +kernel
theorem dX4_where_0 : decode cX4_where 0 = .ok (.iload_n 1, 1) := by decide +kernel
theorem dX4_where_1 : decode cX4_where 1 = .ok (.invokestatic 75, 3) := by decide +kernel
theorem dX4_where_4 : decode cX4_where 4 = .ok (.ifCond .ne 5, 3) := by decide +kernel
theorem dX4_where_7 : decode cX4_where 7 = .ok (.iconst (-1), 1) := by decide +kernel
theorem dX4_where_8 : decode cX4_where 8 = .ok (.ireturn, 1) := by decide +kernel
theorem dX4_where_9 : decode cX4_where 9 = .ok (.aload_n 0, 1) := by decide +kernel
theorem dX4_where_10 : decode cX4_where 10 = .ok (.invokevirtual 154, 3) := by decide +kernel
theorem dX4_where_13 : decode cX4_where 13 = .ok (.ifCond .eq 6, 3) := by decide +kernel
theorem dX4_where_16 : decode cX4_where 16 = .ok (.bipush (-4), 2) := by decide +kernel
theorem dX4_where_18 : decode cX4_where 18 = .ok (.ireturn, 1) := by decide +kernel
theorem dX4_where_19 : decode cX4_where 19 = .ok (.aload_n 0, 1) := by decide +kernel
theorem dX4_where_20 : decode cX4_where 20 = .ok (.getfield 11, 3) := by decide +kernel
theorem dX4_where_23 : decode cX4_where 23 = .ok (.iload_n 1, 1) := by decide +kernel
theorem dX4_where_24 : decode cX4_where 24 = .ok (.aaload, 1) := by decide +kernel
theorem dX4_where_25 : decode cX4_where 25 = .ok (.invokestatic 214, 3) := by decide +kernel
theorem dX4_where_28 : decode cX4_where 28 = .ok (.istore_n 2, 1) := by decide +kernel
theorem dX4_where_29 : decode cX4_where 29 = .ok (.iload_n 2, 1) := by decide +kernel
theorem dX4_where_30 : decode cX4_where 30 = .ok (.ifCond .eq 9, 3) := by decide +kernel
theorem dX4_where_33 : decode cX4_where 33 = .ok (.aload_n 0, 1) := by decide +kernel
theorem dX4_where_34 : decode cX4_where 34 = .ok (.iload_n 2, 1) := by decide +kernel
theorem dX4_where_35 : decode cX4_where 35 = .ok (.invokevirtual 79, 3) := by decide +kernel
theorem dX4_where_38 : decode cX4_where 38 = .ok (.ireturn, 1) := by decide +kernel
theorem dX4_where_39 : decode cX4_where 39 = .ok (.iconst 0, 1) := by decide +kernel
theorem dX4_where_40 : decode cX4_where 40 = .ok (.istore_n 3, 1) := by decide +kernel
theorem dX4_where_41 : decode cX4_where 41 = .ok (.iconst 0, 1) := by decide +kernel
theorem dX4_where_42 : decode cX4_where 42 = .ok (.istore 4, 2) := by decide +kernel
theorem dX4_where_44 : decode cX4_where 44 = .ok (.iload 4, 2) := by decide +kernel
theorem dX4_where_46 : decode cX4_where 46 = .ok (.aload_n 0, 1) := by decide +kernel
theorem dX4_where_47 : decode cX4_where 47 = .ok (.getfield 21, 3) := by decide +kernel
theorem dX4_where_50 : decode cX4_where 50 = .ok (.getfield 129, 3) := by decide +kernel
theorem dX4_where_53 : decode cX4_where 53 = .ok (.if_icmp .ge 35, 3) := by decide +kernel
theorem dX4_where_56 : decode cX4_where 56 = .ok (.aload_n 0, 1) := by decide +kernel
theorem dX4_where_57 : decode cX4_where 57 = .ok (.aload_n 0, 1) := by decide +kernel
theorem dX4_where_58 : decode cX4_where 58 = .ok (.getfield 11, 3) := by decide +kernel
theorem dX4_where_61 : decode cX4_where 61 = .ok (.iload_n 1, 1) := by decide +kernel
theorem dX4_where_62 : decode cX4_where 62 = .ok (.aaload, 1) := by decide +kernel
theorem dX4_where_63 : decode cX4_where 63 = .ok (.aload_n 0, 1) := by decide +kernel
theorem dX4_where_64 : decode cX4_where 64 = .ok (.getfield 21, 3) := by decide +kernel
theorem dX4_where_67 : decode cX4_where 67 = .ok (.iload 4, 2) := by decide +kernel
theorem dX4_where_69 : decode cX4_where 69 = .ok (.invokevirtual 217, 3) := by decide +kernel
theorem dX4_where_72 : decode cX4_where 72 = .ok (.ifCond .eq 10, 3) := by decide +kernel
theorem dX4_where_75 : decode cX4_where 75 = .ok (.iload_n 3, 1) := by decide +kernel
theorem dX4_where_76 : decode cX4_where 76 = .ok (.iconst 1, 1) := by decide +kernel
theorem dX4_where_77 : decode cX4_where 77 = .ok (.iload 4, 2) := by decide +kernel
theorem dX4_where_79 : decode cX4_where 79 = .ok (.ishl, 1) := by decide +kernel
theorem dX4_where_80 : decode cX4_where 80 = .ok (.ior, 1) := by decide +kernel
theorem dX4_where_81 : decode cX4_where 81 = .ok (.istore_n 3, 1) := by decide +kernel
theorem dX4_where_82 : decode cX4_where 82 = .ok (.iinc 4 1, 3) := by decide +kernel
theorem dX4_where_85 : decode cX4_where 85 = .ok (.goto (-41), 3) := by decide +kernel
theorem dX4_where_88 : decode cX4_where 88 = .ok (.iload_n 3, 1) := by decide +kernel
theorem dX4_where_89 : decode cX4_where 89 = .ok (.ireturn, 1) := by decide +kernel
theorem dX4_flows_0 : decode cX4_flows 0 = .ok (.aload_n 0, 1) := by decide +kernel
theorem dX4_flows_1 : decode cX4_flows 1 = .ok (.iload_n 1, 1) := by decide +kernel
theorem dX4_flows_2 : decode cX4_flows 2 = .ok (.invokevirtual 130, 3) := by decide +kernel
theorem dX4_flows_5 : decode cX4_flows 5 = .ok (.ifCond .eq 10, 3) := by decide +kernel
theorem dX4_flows_8 : decode cX4_flows 8 = .ok (.iload_n 2, 1) := by decide +kernel
theorem dX4_flows_9 : decode cX4_flows 9 = .ok (.invokestatic 75, 3) := by decide +kernel
theorem dX4_flows_12 : decode cX4_flows 12 = .ok (.ifCond .ne 5, 3) := by decide +kernel
theorem dX4_flows_15 : decode cX4_flows 15 = .ok (.iconst (-1), 1) := by decide +kernel
theorem dX4_flows_16 : decode cX4_flows 16 = .ok (.ireturn, 1) := by decide +kernel
theorem dX4_flows_17 : decode cX4_flows 17 = .ok (.aload_n 0, 1) := by decide +kernel
theorem dX4_flows_18 : decode cX4_flows 18 = .ok (.getfield 11, 3) := by decide +kernel
theorem dX4_flows_21 : decode cX4_flows 21 = .ok (.iload_n 2, 1) := by decide +kernel
theorem dX4_flows_22 : decode cX4_flows 22 = .ok (.aaload, 1) := by decide +kernel
theorem dX4_flows_23 : decode cX4_flows 23 = .ok (.invokestatic 214, 3) := by decide +kernel
theorem dX4_flows_26 : decode cX4_flows 26 = .ok (.istore_n 3, 1) := by decide +kernel
theorem dX4_flows_27 : decode cX4_flows 27 = .ok (.iload_n 3, 1) := by decide +kernel
theorem dX4_flows_28 : decode cX4_flows 28 = .ok (.ifCond .eq 9, 3) := by decide +kernel
theorem dX4_flows_31 : decode cX4_flows 31 = .ok (.aload_n 0, 1) := by decide +kernel
theorem dX4_flows_32 : decode cX4_flows 32 = .ok (.iload_n 3, 1) := by decide +kernel
theorem dX4_flows_33 : decode cX4_flows 33 = .ok (.invokevirtual 79, 3) := by decide +kernel
theorem dX4_flows_36 : decode cX4_flows 36 = .ok (.ireturn, 1) := by decide +kernel
theorem dX4_flows_37 : decode cX4_flows 37 = .ok (.aload_n 0, 1) := by decide +kernel
theorem dX4_flows_38 : decode cX4_flows 38 = .ok (.getfield 43, 3) := by decide +kernel
theorem dX4_flows_41 : decode cX4_flows 41 = .ok (.aload_n 0, 1) := by decide +kernel
theorem dX4_flows_42 : decode cX4_flows 42 = .ok (.getfield 21, 3) := by decide +kernel
theorem dX4_flows_45 : decode cX4_flows 45 = .ok (.invokevirtual 207, 3) := by decide +kernel
theorem dX4_flows_48 : decode cX4_flows 48 = .ok (.iconst 0, 1) := by decide +kernel
theorem dX4_flows_49 : decode cX4_flows 49 = .ok (.istore 4, 2) := by decide +kernel
theorem dX4_flows_51 : decode cX4_flows 51 = .ok (.iconst 0, 1) := by decide +kernel
theorem dX4_flows_52 : decode cX4_flows 52 = .ok (.istore 5, 2) := by decide +kernel
theorem dX4_flows_54 : decode cX4_flows 54 = .ok (.iload 5, 2) := by decide +kernel
theorem dX4_flows_56 : decode cX4_flows 56 = .ok (.bipush 9, 2) := by decide +kernel
theorem dX4_flows_58 : decode cX4_flows 58 = .ok (.if_icmp .gt 53, 3) := by decide +kernel
theorem dX4_flows_61 : decode cX4_flows 61 = .ok (.aload_n 0, 1) := by decide +kernel
theorem dX4_flows_62 : decode cX4_flows 62 = .ok (.getfield 43, 3) := by decide +kernel
theorem dX4_flows_65 : decode cX4_flows 65 = .ok (.getfield 221, 3) := by decide +kernel
theorem dX4_flows_68 : decode cX4_flows 68 = .ok (.iload_n 1, 1) := by decide +kernel
theorem dX4_flows_69 : decode cX4_flows 69 = .ok (.iload 5, 2) := by decide +kernel
theorem dX4_flows_71 : decode cX4_flows 71 = .ok (.iastore, 1) := by decide +kernel
theorem dX4_flows_72 : decode cX4_flows 72 = .ok (.aload_n 0, 1) := by decide +kernel
theorem dX4_flows_73 : decode cX4_flows 73 = .ok (.aload_n 0, 1) := by decide +kernel
theorem dX4_flows_74 : decode cX4_flows 74 = .ok (.getfield 11, 3) := by decide +kernel
theorem dX4_flows_77 : decode cX4_flows 77 = .ok (.iload_n 2, 1) := by decide +kernel
theorem dX4_flows_78 : decode cX4_flows 78 = .ok (.aaload, 1) := by decide +kernel
theorem dX4_flows_79 : decode cX4_flows 79 = .ok (.aload_n 0, 1) := by decide +kernel
theorem dX4_flows_80 : decode cX4_flows 80 = .ok (.getfield 43, 3) := by decide +kernel
theorem dX4_flows_83 : decode cX4_flows 83 = .ok (.aload_n 0, 1) := by decide +kernel
theorem dX4_flows_84 : decode cX4_flows 84 = .ok (.getfield 28, 3) := by decide +kernel
theorem dX4_flows_87 : decode cX4_flows 87 = .ok (.getfield 163, 3) := by decide +kernel
theorem dX4_flows_90 : decode cX4_flows 90 = .ok (.invokevirtual 217, 3) := by decide +kernel
theorem dX4_flows_93 : decode cX4_flows 93 = .ok (.ifCond .eq 12, 3) := by decide +kernel
theorem dX4_flows_96 : decode cX4_flows 96 = .ok (.iload 4, 2) := by decide +kernel
theorem dX4_flows_98 : decode cX4_flows 98 = .ok (.iconst 1, 1) := by decide +kernel
theorem dX4_flows_99 : decode cX4_flows 99 = .ok (.iload 5, 2) := by decide +kernel
theorem dX4_flows_101 : decode cX4_flows 101 = .ok (.ishl, 1) := by decide +kernel
theorem dX4_flows_102 : decode cX4_flows 102 = .ok (.ior, 1) := by decide +kernel
theorem dX4_flows_103 : decode cX4_flows 103 = .ok (.istore 4, 2) := by decide +kernel
theorem dX4_flows_105 : decode cX4_flows 105 = .ok (.iinc 5 1, 3) := by decide +kernel
theorem dX4_flows_108 : decode cX4_flows 108 = .ok (.goto (-54), 3) := by decide +kernel
theorem dX4_flows_111 : decode cX4_flows 111 = .ok (.iload 4, 2) := by decide +kernel
theorem dX4_flows_113 : decode cX4_flows 113 = .ok (.ireturn, 1) := by decide +kernel
theorem dX4_kinds_0 : decode cX4_kinds 0 = .ok (.aload_n 0, 1) := by decide +kernel
theorem dX4_kinds_1 : decode cX4_kinds 1 = .ok (.iload_n 1, 1) := by decide +kernel
theorem dX4_kinds_2 : decode cX4_kinds 2 = .ok (.invokevirtual 130, 3) := by decide +kernel
theorem dX4_kinds_5 : decode cX4_kinds 5 = .ok (.ifCond .eq 10, 3) := by decide +kernel
theorem dX4_kinds_8 : decode cX4_kinds 8 = .ok (.iload_n 2, 1) := by decide +kernel
theorem dX4_kinds_9 : decode cX4_kinds 9 = .ok (.invokestatic 75, 3) := by decide +kernel
theorem dX4_kinds_12 : decode cX4_kinds 12 = .ok (.ifCond .ne 5, 3) := by decide +kernel
theorem dX4_kinds_15 : decode cX4_kinds 15 = .ok (.iconst (-1), 1) := by decide +kernel
theorem dX4_kinds_16 : decode cX4_kinds 16 = .ok (.ireturn, 1) := by decide +kernel
theorem dX4_kinds_17 : decode cX4_kinds 17 = .ok (.aload_n 0, 1) := by decide +kernel
theorem dX4_kinds_18 : decode cX4_kinds 18 = .ok (.getfield 11, 3) := by decide +kernel
theorem dX4_kinds_21 : decode cX4_kinds 21 = .ok (.iload_n 2, 1) := by decide +kernel
theorem dX4_kinds_22 : decode cX4_kinds 22 = .ok (.aaload, 1) := by decide +kernel
theorem dX4_kinds_23 : decode cX4_kinds 23 = .ok (.invokestatic 214, 3) := by decide +kernel
theorem dX4_kinds_26 : decode cX4_kinds 26 = .ok (.istore_n 3, 1) := by decide +kernel
theorem dX4_kinds_27 : decode cX4_kinds 27 = .ok (.iload_n 3, 1) := by decide +kernel
theorem dX4_kinds_28 : decode cX4_kinds 28 = .ok (.ifCond .eq 9, 3) := by decide +kernel
theorem dX4_kinds_31 : decode cX4_kinds 31 = .ok (.aload_n 0, 1) := by decide +kernel
theorem dX4_kinds_32 : decode cX4_kinds 32 = .ok (.iload_n 3, 1) := by decide +kernel
theorem dX4_kinds_33 : decode cX4_kinds 33 = .ok (.invokevirtual 79, 3) := by decide +kernel
theorem dX4_kinds_36 : decode cX4_kinds 36 = .ok (.ireturn, 1) := by decide +kernel
theorem dX4_kinds_37 : decode cX4_kinds 37 = .ok (.aload_n 0, 1) := by decide +kernel
theorem dX4_kinds_38 : decode cX4_kinds 38 = .ok (.getfield 43, 3) := by decide +kernel
theorem dX4_kinds_41 : decode cX4_kinds 41 = .ok (.aload_n 0, 1) := by decide +kernel
theorem dX4_kinds_42 : decode cX4_kinds 42 = .ok (.getfield 21, 3) := by decide +kernel
theorem dX4_kinds_45 : decode cX4_kinds 45 = .ok (.invokevirtual 207, 3) := by decide +kernel
theorem dX4_kinds_48 : decode cX4_kinds 48 = .ok (.iconst 0, 1) := by decide +kernel
theorem dX4_kinds_49 : decode cX4_kinds 49 = .ok (.istore 4, 2) := by decide +kernel
theorem dX4_kinds_51 : decode cX4_kinds 51 = .ok (.iconst 0, 1) := by decide +kernel
theorem dX4_kinds_52 : decode cX4_kinds 52 = .ok (.istore 5, 2) := by decide +kernel
theorem dX4_kinds_54 : decode cX4_kinds 54 = .ok (.iload 5, 2) := by decide +kernel
theorem dX4_kinds_56 : decode cX4_kinds 56 = .ok (.bipush 6, 2) := by decide +kernel
theorem dX4_kinds_58 : decode cX4_kinds 58 = .ok (.if_icmp .ge 53, 3) := by decide +kernel
theorem dX4_kinds_61 : decode cX4_kinds 61 = .ok (.aload_n 0, 1) := by decide +kernel
theorem dX4_kinds_62 : decode cX4_kinds 62 = .ok (.getfield 43, 3) := by decide +kernel
theorem dX4_kinds_65 : decode cX4_kinds 65 = .ok (.getfield 141, 3) := by decide +kernel
theorem dX4_kinds_68 : decode cX4_kinds 68 = .ok (.iload_n 1, 1) := by decide +kernel
theorem dX4_kinds_69 : decode cX4_kinds 69 = .ok (.iload 5, 2) := by decide +kernel
theorem dX4_kinds_71 : decode cX4_kinds 71 = .ok (.iastore, 1) := by decide +kernel
theorem dX4_kinds_72 : decode cX4_kinds 72 = .ok (.aload_n 0, 1) := by decide +kernel
theorem dX4_kinds_73 : decode cX4_kinds 73 = .ok (.aload_n 0, 1) := by decide +kernel
theorem dX4_kinds_74 : decode cX4_kinds 74 = .ok (.getfield 11, 3) := by decide +kernel
theorem dX4_kinds_77 : decode cX4_kinds 77 = .ok (.iload_n 2, 1) := by decide +kernel
theorem dX4_kinds_78 : decode cX4_kinds 78 = .ok (.aaload, 1) := by decide +kernel
theorem dX4_kinds_79 : decode cX4_kinds 79 = .ok (.aload_n 0, 1) := by decide +kernel
theorem dX4_kinds_80 : decode cX4_kinds 80 = .ok (.getfield 43, 3) := by decide +kernel
theorem dX4_kinds_83 : decode cX4_kinds 83 = .ok (.aload_n 0, 1) := by decide +kernel
theorem dX4_kinds_84 : decode cX4_kinds 84 = .ok (.getfield 28, 3) := by decide +kernel
theorem dX4_kinds_87 : decode cX4_kinds 87 = .ok (.getfield 163, 3) := by decide +kernel
theorem dX4_kinds_90 : decode cX4_kinds 90 = .ok (.invokevirtual 217, 3) := by decide +kernel
theorem dX4_kinds_93 : decode cX4_kinds 93 = .ok (.ifCond .eq 12, 3) := by decide +kernel
theorem dX4_kinds_96 : decode cX4_kinds 96 = .ok (.iload 4, 2) := by decide +kernel
theorem dX4_kinds_98 : decode cX4_kinds 98 = .ok (.iconst 1, 1) := by decide +kernel
theorem dX4_kinds_99 : decode cX4_kinds 99 = .ok (.iload 5, 2) := by decide +kernel
theorem dX4_kinds_101 : decode cX4_kinds 101 = .ok (.ishl, 1) := by decide +kernel
theorem dX4_kinds_102 : decode cX4_kinds 102 = .ok (.ior, 1) := by decide +kernel
theorem dX4_kinds_103 : decode cX4_kinds 103 = .ok (.istore 4, 2) := by decide +kernel
theorem dX4_kinds_105 : decode cX4_kinds 105 = .ok (.iinc 5 1, 3) := by decide +kernel
theorem dX4_kinds_108 : decode cX4_kinds 108 = .ok (.goto (-54), 3) := by decide +kernel
theorem dX4_kinds_111 : decode cX4_kinds 111 = .ok (.iload 4, 2) := by decide +kernel
theorem dX4_kinds_113 : decode cX4_kinds 113 = .ok (.ireturn, 1) := by decide +kernel
theorem dX4_look_0 : decode cX4_look 0 = .ok (.aload_n 0, 1) := by decide +kernel
theorem dX4_look_1 : decode cX4_look 1 = .ok (.iload_n 1, 1) := by decide +kernel
theorem dX4_look_2 : decode cX4_look 2 = .ok (.invokevirtual 130, 3) := by decide +kernel
theorem dX4_look_5 : decode cX4_look 5 = .ok (.ifCond .ne 5, 3) := by decide +kernel
theorem dX4_look_8 : decode cX4_look 8 = .ok (.iconst (-1), 1) := by decide +kernel
theorem dX4_look_9 : decode cX4_look 9 = .ok (.ireturn, 1) := by decide +kernel
theorem dX4_look_10 : decode cX4_look 10 = .ok (.iconst 0, 1) := by decide +kernel
theorem dX4_look_11 : decode cX4_look 11 = .ok (.istore_n 2, 1) := by decide +kernel
theorem dX4_look_12 : decode cX4_look 12 = .ok (.bipush 7, 2) := by decide +kernel
theorem dX4_look_14 : decode cX4_look 14 = .ok (.istore_n 3, 1) := by decide +kernel
theorem dX4_look_15 : decode cX4_look 15 = .ok (.iconst 0, 1) := by decide +kernel
theorem dX4_look_16 : decode cX4_look 16 = .ok (.istore 4, 2) := by decide +kernel
theorem dX4_look_18 : decode cX4_look 18 = .ok (.iload 4, 2) := by decide +kernel
theorem dX4_look_20 : decode cX4_look 20 = .ok (.iconst 4, 1) := by decide +kernel
theorem dX4_look_21 : decode cX4_look 21 = .ok (.if_icmp .gt 30, 3) := by decide +kernel
theorem dX4_look_24 : decode cX4_look 24 = .ok (.aload_n 0, 1) := by decide +kernel
theorem dX4_look_25 : decode cX4_look 25 = .ok (.iload_n 1, 1) := by decide +kernel
theorem dX4_look_26 : decode cX4_look 26 = .ok (.iload 4, 2) := by decide +kernel
theorem dX4_look_28 : decode cX4_look 28 = .ok (.invokevirtual 224, 3) := by decide +kernel
theorem dX4_look_31 : decode cX4_look 31 = .ok (.istore 5, 2) := by decide +kernel
theorem dX4_look_33 : decode cX4_look 33 = .ok (.iload 5, 2) := by decide +kernel
theorem dX4_look_35 : decode cX4_look 35 = .ok (.iload_n 3, 1) := by decide +kernel
theorem dX4_look_36 : decode cX4_look 36 = .ok (.if_icmp .ge 9, 3) := by decide +kernel
theorem dX4_look_39 : decode cX4_look 39 = .ok (.iload 5, 2) := by decide +kernel
theorem dX4_look_41 : decode cX4_look 41 = .ok (.istore_n 3, 1) := by decide +kernel
theorem dX4_look_42 : decode cX4_look 42 = .ok (.iload 4, 2) := by decide +kernel
theorem dX4_look_44 : decode cX4_look 44 = .ok (.istore_n 2, 1) := by decide +kernel
theorem dX4_look_45 : decode cX4_look 45 = .ok (.iinc 4 1, 3) := by decide +kernel
theorem dX4_look_48 : decode cX4_look 48 = .ok (.goto (-30), 3) := by decide +kernel
theorem dX4_look_51 : decode cX4_look 51 = .ok (.aload_n 0, 1) := by decide +kernel
theorem dX4_look_52 : decode cX4_look 52 = .ok (.iload_n 3, 1) := by decide +kernel
theorem dX4_look_53 : decode cX4_look 53 = .ok (.putfield 53, 3) := by decide +kernel
theorem dX4_look_56 : decode cX4_look 56 = .ok (.iload_n 2, 1) := by decide +kernel
theorem dX4_look_57 : decode cX4_look 57 = .ok (.ireturn, 1) := by decide +kernel
theorem dX4_duel_0 : decode cX4_duel 0 = .ok (.iload_n 1, 1) := by decide +kernel
theorem dX4_duel_1 : decode cX4_duel 1 = .ok (.iconst 0, 1) := by decide +kernel
theorem dX4_duel_2 : decode cX4_duel 2 = .ok (.bipush 6, 2) := by decide +kernel
theorem dX4_duel_4 : decode cX4_duel 4 = .ok (.invokestatic 133, 3) := by decide +kernel
theorem dX4_duel_7 : decode cX4_duel 7 = .ok (.ifCond .ne 5, 3) := by decide +kernel
theorem dX4_duel_10 : decode cX4_duel 10 = .ok (.iconst (-1), 1) := by decide +kernel
theorem dX4_duel_11 : decode cX4_duel 11 = .ok (.ireturn, 1) := by decide +kernel
theorem dX4_duel_12 : decode cX4_duel 12 = .ok (.aload_n 0, 1) := by decide +kernel
theorem dX4_duel_13 : decode cX4_duel 13 = .ok (.invokevirtual 154, 3) := by decide +kernel
theorem dX4_duel_16 : decode cX4_duel 16 = .ok (.ifCond .eq 6, 3) := by decide +kernel
theorem dX4_duel_19 : decode cX4_duel 19 = .ok (.bipush (-4), 2) := by decide +kernel
theorem dX4_duel_21 : decode cX4_duel 21 = .ok (.ireturn, 1) := by decide +kernel
theorem dX4_duel_22 : decode cX4_duel 22 = .ok (.aload_n 0, 1) := by decide +kernel
theorem dX4_duel_23 : decode cX4_duel 23 = .ok (.iload_n 1, 1) := by decide +kernel
theorem dX4_duel_24 : decode cX4_duel 24 = .ok (.aload_n 0, 1) := by decide +kernel
theorem dX4_duel_25 : decode cX4_duel 25 = .ok (.getfield 28, 3) := by decide +kernel
theorem dX4_duel_28 : decode cX4_duel 28 = .ok (.getfield 166, 3) := by decide +kernel
theorem dX4_duel_31 : decode cX4_duel 31 = .ok (.aload_n 0, 1) := by decide +kernel
theorem dX4_duel_32 : decode cX4_duel 32 = .ok (.getfield 28, 3) := by decide +kernel
theorem dX4_duel_35 : decode cX4_duel 35 = .ok (.getfield 169, 3) := by decide +kernel
theorem dX4_duel_38 : decode cX4_duel 38 = .ok (.invokevirtual 227, 3) := by decide +kernel
theorem dX4_duel_41 : decode cX4_duel 41 = .ok (.ireturn, 1) := by decide +kernel
theorem dX4_odds_0 : decode cX4_odds 0 = .ok (.iload_n 1, 1) := by decide +kernel
theorem dX4_odds_1 : decode cX4_odds 1 = .ok (.iconst 0, 1) := by decide +kernel
theorem dX4_odds_2 : decode cX4_odds 2 = .ok (.sipush 400, 3) := by decide +kernel
theorem dX4_odds_5 : decode cX4_odds 5 = .ok (.invokestatic 133, 3) := by decide +kernel
theorem dX4_odds_8 : decode cX4_odds 8 = .ok (.ifCond .eq 13, 3) := by decide +kernel
theorem dX4_odds_11 : decode cX4_odds 11 = .ok (.iload_n 2, 1) := by decide +kernel
theorem dX4_odds_12 : decode cX4_odds 12 = .ok (.iconst 0, 1) := by decide +kernel
theorem dX4_odds_13 : decode cX4_odds 13 = .ok (.bipush 12, 2) := by decide +kernel
theorem dX4_odds_15 : decode cX4_odds 15 = .ok (.invokestatic 133, 3) := by decide +kernel
theorem dX4_odds_18 : decode cX4_odds 18 = .ok (.ifCond .ne 5, 3) := by decide +kernel
theorem dX4_odds_21 : decode cX4_odds 21 = .ok (.iconst (-1), 1) := by decide +kernel
theorem dX4_odds_22 : decode cX4_odds 22 = .ok (.ireturn, 1) := by decide +kernel
end
section
theorem dX4_odds_23 : decode cX4_odds 23 = .ok (.aload_n 0, 1) := by decide +kernel
theorem dX4_odds_24 : decode cX4_odds 24 = .ok (.invokevirtual 154, 3) := by decide +kernel
theorem dX4_odds_27 : decode cX4_odds 27 = .ok (.ifCond .eq 6, 3) := by decide +kernel
theorem dX4_odds_30 : decode cX4_odds 30 = .ok (.bipush (-4), 2) := by decide +kernel
theorem dX4_odds_32 : decode cX4_odds 32 = .ok (.ireturn, 1) := by decide +kernel
theorem dX4_odds_33 : decode cX4_odds 33 = .ok (.lconst 0, 1) := by decide +kernel
theorem dX4_odds_34 : decode cX4_odds 34 = .ok (.lstore_n 3, 1) := by decide +kernel
theorem dX4_odds_35 : decode cX4_odds 35 = .ok (.iconst 0, 1) := by decide +kernel
theorem dX4_odds_36 : decode cX4_odds 36 = .ok (.istore 5, 2) := by decide +kernel
theorem dX4_odds_38 : decode cX4_odds 38 = .ok (.iload 5, 2) := by decide +kernel
theorem dX4_odds_40 : decode cX4_odds 40 = .ok (.bipush 64, 2) := by decide +kernel
theorem dX4_odds_42 : decode cX4_odds 42 = .ok (.if_icmp .ge 28, 3) := by decide +kernel
theorem dX4_odds_45 : decode cX4_odds 45 = .ok (.aload_n 0, 1) := by decide +kernel
theorem dX4_odds_46 : decode cX4_odds 46 = .ok (.iload 5, 2) := by decide +kernel
theorem dX4_odds_48 : decode cX4_odds 48 = .ok (.invokevirtual 230, 3) := by decide +kernel
theorem dX4_odds_51 : decode cX4_odds 51 = .ok (.iload_n 1, 1) := by decide +kernel
theorem dX4_odds_52 : decode cX4_odds 52 = .ok (.if_icmp .lt 12, 3) := by decide +kernel
theorem dX4_odds_55 : decode cX4_odds 55 = .ok (.lload_n 3, 1) := by decide +kernel
theorem dX4_odds_56 : decode cX4_odds 56 = .ok (.iload 5, 2) := by decide +kernel
theorem dX4_odds_58 : decode cX4_odds 58 = .ok (.iload_n 2, 1) := by decide +kernel
theorem dX4_odds_59 : decode cX4_odds 59 = .ok (.invokestatic 233, 3) := by decide +kernel
theorem dX4_odds_62 : decode cX4_odds 62 = .ok (.ladd, 1) := by decide +kernel
theorem dX4_odds_63 : decode cX4_odds 63 = .ok (.lstore_n 3, 1) := by decide +kernel
theorem dX4_odds_64 : decode cX4_odds 64 = .ok (.iinc 5 1, 3) := by decide +kernel
theorem dX4_odds_67 : decode cX4_odds 67 = .ok (.goto (-29), 3) := by decide +kernel
theorem dX4_odds_70 : decode cX4_odds 70 = .ok (.aload_n 0, 1) := by decide +kernel
theorem dX4_odds_71 : decode cX4_odds 71 = .ok (.lload_n 3, 1) := by decide +kernel
theorem dX4_odds_72 : decode cX4_odds 72 = .ok (.bipush 12, 2) := by decide +kernel
theorem dX4_odds_74 : decode cX4_odds 74 = .ok (.bipush 6, 2) := by decide +kernel
theorem dX4_odds_76 : decode cX4_odds 76 = .ok (.invokestatic 237, 3) := by decide +kernel
theorem dX4_odds_79 : decode cX4_odds 79 = .ok (.invokevirtual 240, 3) := by decide +kernel
theorem dX4_odds_82 : decode cX4_odds 82 = .ok (.iconst 1, 1) := by decide +kernel
theorem dX4_odds_83 : decode cX4_odds 83 = .ok (.ireturn, 1) := by decide +kernel
theorem dX4_mid_0 : decode cX4_mid 0 = .ok (.iload_n 1, 1) := by decide +kernel
theorem dX4_mid_1 : decode cX4_mid 1 = .ok (.iconst 0, 1) := by decide +kernel
theorem dX4_mid_2 : decode cX4_mid 2 = .ok (.bipush 12, 2) := by decide +kernel
theorem dX4_mid_4 : decode cX4_mid 4 = .ok (.invokestatic 133, 3) := by decide +kernel
theorem dX4_mid_7 : decode cX4_mid 7 = .ok (.ifCond .ne 5, 3) := by decide +kernel
theorem dX4_mid_10 : decode cX4_mid 10 = .ok (.iconst (-1), 1) := by decide +kernel
theorem dX4_mid_11 : decode cX4_mid 11 = .ok (.ireturn, 1) := by decide +kernel
theorem dX4_mid_12 : decode cX4_mid 12 = .ok (.aload_n 0, 1) := by decide +kernel
theorem dX4_mid_13 : decode cX4_mid 13 = .ok (.invokevirtual 154, 3) := by decide +kernel
theorem dX4_mid_16 : decode cX4_mid 16 = .ok (.ifCond .eq 6, 3) := by decide +kernel
theorem dX4_mid_19 : decode cX4_mid 19 = .ok (.bipush (-4), 2) := by decide +kernel
theorem dX4_mid_21 : decode cX4_mid 21 = .ok (.ireturn, 1) := by decide +kernel
theorem dX4_mid_22 : decode cX4_mid 22 = .ok (.lconst 0, 1) := by decide +kernel
theorem dX4_mid_23 : decode cX4_mid 23 = .ok (.lstore_n 2, 1) := by decide +kernel
theorem dX4_mid_24 : decode cX4_mid 24 = .ok (.iconst 0, 1) := by decide +kernel
theorem dX4_mid_25 : decode cX4_mid 25 = .ok (.istore 4, 2) := by decide +kernel
theorem dX4_mid_27 : decode cX4_mid 27 = .ok (.iload 4, 2) := by decide +kernel
theorem dX4_mid_29 : decode cX4_mid 29 = .ok (.bipush 64, 2) := by decide +kernel
theorem dX4_mid_31 : decode cX4_mid 31 = .ok (.if_icmp .ge 26, 3) := by decide +kernel
theorem dX4_mid_34 : decode cX4_mid 34 = .ok (.lload_n 2, 1) := by decide +kernel
theorem dX4_mid_35 : decode cX4_mid 35 = .ok (.iload 4, 2) := by decide +kernel
theorem dX4_mid_37 : decode cX4_mid 37 = .ok (.iload_n 1, 1) := by decide +kernel
theorem dX4_mid_38 : decode cX4_mid 38 = .ok (.invokestatic 233, 3) := by decide +kernel
theorem dX4_mid_41 : decode cX4_mid 41 = .ok (.aload_n 0, 1) := by decide +kernel
theorem dX4_mid_42 : decode cX4_mid 42 = .ok (.iload 4, 2) := by decide +kernel
theorem dX4_mid_44 : decode cX4_mid 44 = .ok (.invokevirtual 230, 3) := by decide +kernel
theorem dX4_mid_47 : decode cX4_mid 47 = .ok (.i2l, 1) := by decide +kernel
theorem dX4_mid_48 : decode cX4_mid 48 = .ok (.lmul, 1) := by decide +kernel
theorem dX4_mid_49 : decode cX4_mid 49 = .ok (.ladd, 1) := by decide +kernel
theorem dX4_mid_50 : decode cX4_mid 50 = .ok (.lstore_n 2, 1) := by decide +kernel
theorem dX4_mid_51 : decode cX4_mid 51 = .ok (.iinc 4 1, 3) := by decide +kernel
theorem dX4_mid_54 : decode cX4_mid 54 = .ok (.goto (-27), 3) := by decide +kernel
theorem dX4_mid_57 : decode cX4_mid 57 = .ok (.aload_n 0, 1) := by decide +kernel
theorem dX4_mid_58 : decode cX4_mid 58 = .ok (.lload_n 2, 1) := by decide +kernel
theorem dX4_mid_59 : decode cX4_mid 59 = .ok (.bipush 12, 2) := by decide +kernel
theorem dX4_mid_61 : decode cX4_mid 61 = .ok (.bipush 6, 2) := by decide +kernel
theorem dX4_mid_63 : decode cX4_mid 63 = .ok (.invokestatic 237, 3) := by decide +kernel
theorem dX4_mid_66 : decode cX4_mid 66 = .ok (.invokevirtual 240, 3) := by decide +kernel
theorem dX4_mid_69 : decode cX4_mid 69 = .ok (.iconst 1, 1) := by decide +kernel
theorem dX4_mid_70 : decode cX4_mid 70 = .ok (.ireturn, 1) := by decide +kernel
theorem dX4_lots_0 : decode cX4_lots 0 = .ok (.iload_n 1, 1) := by decide +kernel
theorem dX4_lots_1 : decode cX4_lots 1 = .ok (.iconst 1, 1) := by decide +kernel
theorem dX4_lots_2 : decode cX4_lots 2 = .ok (.bipush 20, 2) := by decide +kernel
theorem dX4_lots_4 : decode cX4_lots 4 = .ok (.invokestatic 133, 3) := by decide +kernel
theorem dX4_lots_7 : decode cX4_lots 7 = .ok (.ifCond .eq 13, 3) := by decide +kernel
theorem dX4_lots_10 : decode cX4_lots 10 = .ok (.iload_n 2, 1) := by decide +kernel
theorem dX4_lots_11 : decode cX4_lots 11 = .ok (.iconst 1, 1) := by decide +kernel
theorem dX4_lots_12 : decode cX4_lots 12 = .ok (.ldc 244, 2) := by decide +kernel
theorem dX4_lots_14 : decode cX4_lots 14 = .ok (.invokestatic 133, 3) := by decide +kernel
theorem dX4_lots_17 : decode cX4_lots 17 = .ok (.ifCond .ne 5, 3) := by decide +kernel
theorem dX4_lots_20 : decode cX4_lots 20 = .ok (.iconst (-1), 1) := by decide +kernel
theorem dX4_lots_21 : decode cX4_lots 21 = .ok (.ireturn, 1) := by decide +kernel
theorem dX4_lots_22 : decode cX4_lots 22 = .ok (.aload_n 0, 1) := by decide +kernel
theorem dX4_lots_23 : decode cX4_lots 23 = .ok (.invokevirtual 154, 3) := by decide +kernel
theorem dX4_lots_26 : decode cX4_lots 26 = .ok (.ifCond .eq 6, 3) := by decide +kernel
theorem dX4_lots_29 : decode cX4_lots 29 = .ok (.bipush (-4), 2) := by decide +kernel
theorem dX4_lots_31 : decode cX4_lots 31 = .ok (.ireturn, 1) := by decide +kernel
theorem dX4_lots_32 : decode cX4_lots 32 = .ok (.aload_n 0, 1) := by decide +kernel
theorem dX4_lots_33 : decode cX4_lots 33 = .ok (.getfield 35, 3) := by decide +kernel
theorem dX4_lots_36 : decode cX4_lots 36 = .ok (.getfield 72, 3) := by decide +kernel
theorem dX4_lots_39 : decode cX4_lots 39 = .ok (.iload_n 1, 1) := by decide +kernel
theorem dX4_lots_40 : decode cX4_lots 40 = .ok (.iadd, 1) := by decide +kernel
theorem dX4_lots_41 : decode cX4_lots 41 = .ok (.bipush 40, 2) := by decide +kernel
theorem dX4_lots_43 : decode cX4_lots 43 = .ok (.if_icmp .le 6, 3) := by decide +kernel
theorem dX4_lots_46 : decode cX4_lots 46 = .ok (.bipush (-2), 2) := by decide +kernel
theorem dX4_lots_48 : decode cX4_lots 48 = .ok (.ireturn, 1) := by decide +kernel
theorem dX4_lots_49 : decode cX4_lots 49 = .ok (.iload_n 2, 1) := by decide +kernel
theorem dX4_lots_50 : decode cX4_lots 50 = .ok (.istore_n 3, 1) := by decide +kernel
theorem dX4_lots_51 : decode cX4_lots 51 = .ok (.iconst 0, 1) := by decide +kernel
theorem dX4_lots_52 : decode cX4_lots 52 = .ok (.istore 4, 2) := by decide +kernel
theorem dX4_lots_54 : decode cX4_lots 54 = .ok (.iload 4, 2) := by decide +kernel
theorem dX4_lots_56 : decode cX4_lots 56 = .ok (.iload_n 1, 1) := by decide +kernel
theorem dX4_lots_57 : decode cX4_lots 57 = .ok (.if_icmp .ge 26, 3) := by decide +kernel
theorem dX4_lots_60 : decode cX4_lots 60 = .ok (.iload_n 3, 1) := by decide +kernel
theorem dX4_lots_61 : decode cX4_lots 61 = .ok (.i2l, 1) := by decide +kernel
theorem dX4_lots_62 : decode cX4_lots 62 = .ok (.ldc2_w 245, 3) := by decide +kernel
theorem dX4_lots_65 : decode cX4_lots 65 = .ok (.lmul, 1) := by decide +kernel
theorem dX4_lots_66 : decode cX4_lots 66 = .ok (.ldc2_w 247, 3) := by decide +kernel
theorem dX4_lots_69 : decode cX4_lots 69 = .ok (.lrem, 1) := by decide +kernel
theorem dX4_lots_70 : decode cX4_lots 70 = .ok (.l2i, 1) := by decide +kernel
theorem dX4_lots_71 : decode cX4_lots 71 = .ok (.istore_n 3, 1) := by decide +kernel
theorem dX4_lots_72 : decode cX4_lots 72 = .ok (.aload_n 0, 1) := by decide +kernel
theorem dX4_lots_73 : decode cX4_lots 73 = .ok (.iload_n 3, 1) := by decide +kernel
theorem dX4_lots_74 : decode cX4_lots 74 = .ok (.invokevirtual 249, 3) := by decide +kernel
theorem dX4_lots_77 : decode cX4_lots 77 = .ok (.iinc 4 1, 3) := by decide +kernel
theorem dX4_lots_80 : decode cX4_lots 80 = .ok (.goto (-26), 3) := by decide +kernel
theorem dX4_lots_83 : decode cX4_lots 83 = .ok (.aload_n 0, 1) := by decide +kernel
theorem dX4_lots_84 : decode cX4_lots 84 = .ok (.getfield 28, 3) := by decide +kernel
theorem dX4_lots_87 : decode cX4_lots 87 = .ok (.getfield 196, 3) := by decide +kernel
theorem dX4_lots_90 : decode cX4_lots 90 = .ok (.ireturn, 1) := by decide +kernel
theorem dX4_asked_0 : decode cX4_asked 0 = .ok (.aload_n 0, 1) := by decide +kernel
theorem dX4_asked_1 : decode cX4_asked 1 = .ok (.getfield 53, 3) := by decide +kernel
theorem dX4_asked_4 : decode cX4_asked 4 = .ok (.ireturn, 1) := by decide +kernel
theorem dX4_upper_0 : decode cX4_upper 0 = .ok (.aload_n 0, 1) := by decide +kernel
theorem dX4_upper_1 : decode cX4_upper 1 = .ok (.getfield 57, 3) := by decide +kernel
theorem dX4_upper_4 : decode cX4_upper 4 = .ok (.lreturn, 1) := by decide +kernel
theorem dX4_lower_0 : decode cX4_lower 0 = .ok (.aload_n 0, 1) := by decide +kernel
theorem dX4_lower_1 : decode cX4_lower 1 = .ok (.getfield 61, 3) := by decide +kernel
theorem dX4_lower_4 : decode cX4_lower 4 = .ok (.lreturn, 1) := by decide +kernel
theorem dX4_count_0 : decode cX4_count 0 = .ok (.iload_n 1, 1) := by decide +kernel
theorem dX4_count_1 : decode cX4_count 1 = .ok (.tableswitch 178 0 12 #[67, 75, 83, 91, 99, 107, 115, 131, 139, 147, 155, 160, 169], 67) := by decide +kernel
theorem dX4_count_68 : decode cX4_count 68 = .ok (.aload_n 0, 1) := by decide +kernel
theorem dX4_count_69 : decode cX4_count 69 = .ok (.getfield 21, 3) := by decide +kernel
theorem dX4_count_72 : decode cX4_count 72 = .ok (.getfield 129, 3) := by decide +kernel
theorem dX4_count_75 : decode cX4_count 75 = .ok (.ireturn, 1) := by decide +kernel
theorem dX4_count_76 : decode cX4_count 76 = .ok (.aload_n 0, 1) := by decide +kernel
theorem dX4_count_77 : decode cX4_count 77 = .ok (.getfield 28, 3) := by decide +kernel
theorem dX4_count_80 : decode cX4_count 80 = .ok (.getfield 163, 3) := by decide +kernel
theorem dX4_count_83 : decode cX4_count 83 = .ok (.ireturn, 1) := by decide +kernel
theorem dX4_count_84 : decode cX4_count 84 = .ok (.aload_n 0, 1) := by decide +kernel
theorem dX4_count_85 : decode cX4_count 85 = .ok (.getfield 35, 3) := by decide +kernel
theorem dX4_count_88 : decode cX4_count 88 = .ok (.getfield 72, 3) := by decide +kernel
theorem dX4_count_91 : decode cX4_count 91 = .ok (.ireturn, 1) := by decide +kernel
theorem dX4_count_92 : decode cX4_count 92 = .ok (.aload_n 0, 1) := by decide +kernel
theorem dX4_count_93 : decode cX4_count 93 = .ok (.getfield 28, 3) := by decide +kernel
theorem dX4_count_96 : decode cX4_count 96 = .ok (.getfield 166, 3) := by decide +kernel
theorem dX4_count_99 : decode cX4_count 99 = .ok (.ireturn, 1) := by decide +kernel
theorem dX4_count_100 : decode cX4_count 100 = .ok (.aload_n 0, 1) := by decide +kernel
theorem dX4_count_101 : decode cX4_count 101 = .ok (.getfield 28, 3) := by decide +kernel
theorem dX4_count_104 : decode cX4_count 104 = .ok (.getfield 169, 3) := by decide +kernel
theorem dX4_count_107 : decode cX4_count 107 = .ok (.ireturn, 1) := by decide +kernel
theorem dX4_count_108 : decode cX4_count 108 = .ok (.aload_n 0, 1) := by decide +kernel
theorem dX4_count_109 : decode cX4_count 109 = .ok (.getfield 28, 3) := by decide +kernel
theorem dX4_count_112 : decode cX4_count 112 = .ok (.getfield 196, 3) := by decide +kernel
theorem dX4_count_115 : decode cX4_count 115 = .ok (.ireturn, 1) := by decide +kernel
theorem dX4_count_116 : decode cX4_count 116 = .ok (.aload_n 0, 1) := by decide +kernel
theorem dX4_count_117 : decode cX4_count 117 = .ok (.getfield 28, 3) := by decide +kernel
theorem dX4_count_120 : decode cX4_count 120 = .ok (.getfield 252, 3) := by decide +kernel
theorem dX4_count_123 : decode cX4_count 123 = .ok (.ifCond .eq 7, 3) := by decide +kernel
theorem dX4_count_126 : decode cX4_count 126 = .ok (.iconst 1, 1) := by decide +kernel
theorem dX4_count_127 : decode cX4_count 127 = .ok (.goto 4, 3) := by decide +kernel
theorem dX4_count_130 : decode cX4_count 130 = .ok (.iconst 0, 1) := by decide +kernel
theorem dX4_count_131 : decode cX4_count 131 = .ok (.ireturn, 1) := by decide +kernel
theorem dX4_count_132 : decode cX4_count 132 = .ok (.aload_n 0, 1) := by decide +kernel
theorem dX4_count_133 : decode cX4_count 133 = .ok (.getfield 21, 3) := by decide +kernel
theorem dX4_count_136 : decode cX4_count 136 = .ok (.getfield 256, 3) := by decide +kernel
theorem dX4_count_139 : decode cX4_count 139 = .ok (.ireturn, 1) := by decide +kernel
theorem dX4_count_140 : decode cX4_count 140 = .ok (.aload_n 0, 1) := by decide +kernel
theorem dX4_count_141 : decode cX4_count 141 = .ok (.getfield 11, 3) := by decide +kernel
theorem dX4_count_144 : decode cX4_count 144 = .ok (.invokestatic 259, 3) := by decide +kernel
theorem dX4_count_147 : decode cX4_count 147 = .ok (.ireturn, 1) := by decide +kernel
theorem dX4_count_148 : decode cX4_count 148 = .ok (.aload_n 0, 1) := by decide +kernel
theorem dX4_count_149 : decode cX4_count 149 = .ok (.getfield 15, 3) := by decide +kernel
theorem dX4_count_152 : decode cX4_count 152 = .ok (.invokestatic 259, 3) := by decide +kernel
theorem dX4_count_155 : decode cX4_count 155 = .ok (.ireturn, 1) := by decide +kernel
theorem dX4_count_156 : decode cX4_count 156 = .ok (.aload_n 0, 1) := by decide +kernel
theorem dX4_count_157 : decode cX4_count 157 = .ok (.invokevirtual 263, 3) := by decide +kernel
theorem dX4_count_160 : decode cX4_count 160 = .ok (.ireturn, 1) := by decide +kernel
theorem dX4_count_161 : decode cX4_count 161 = .ok (.aload_n 0, 1) := by decide +kernel
theorem dX4_count_162 : decode cX4_count 162 = .ok (.getfield 21, 3) := by decide +kernel
theorem dX4_count_165 : decode cX4_count 165 = .ok (.iconst 1, 1) := by decide +kernel
theorem dX4_count_166 : decode cX4_count 166 = .ok (.invokevirtual 267, 3) := by decide +kernel
theorem dX4_count_169 : decode cX4_count 169 = .ok (.ireturn, 1) := by decide +kernel
theorem dX4_count_170 : decode cX4_count 170 = .ok (.aload_n 0, 1) := by decide +kernel
theorem dX4_count_171 : decode cX4_count 171 = .ok (.getfield 21, 3) := by decide +kernel
theorem dX4_count_174 : decode cX4_count 174 = .ok (.iconst 3, 1) := by decide +kernel
theorem dX4_count_175 : decode cX4_count 175 = .ok (.invokevirtual 267, 3) := by decide +kernel
theorem dX4_count_178 : decode cX4_count 178 = .ok (.ireturn, 1) := by decide +kernel
theorem dX4_count_179 : decode cX4_count 179 = .ok (.iconst (-1), 1) := by decide +kernel
theorem dX4_count_180 : decode cX4_count 180 = .ok (.ireturn, 1) := by decide +kernel
theorem dX4_finding_0 : decode cX4_finding 0 = .ok (.aload_n 0, 1) := by decide +kernel
theorem dX4_finding_1 : decode cX4_finding 1 = .ok (.getfield 64, 3) := by decide +kernel
theorem dX4_finding_4 : decode cX4_finding 4 = .ok (.ireturn, 1) := by decide +kernel
theorem dX4_findings_0 : decode cX4_findings 0 = .ok (.iload_n 1, 1) := by decide +kernel
theorem dX4_findings_1 : decode cX4_findings 1 = .ok (.iconst 1, 1) := by decide +kernel
theorem dX4_findings_2 : decode cX4_findings 2 = .ok (.iconst 5, 1) := by decide +kernel
theorem dX4_findings_3 : decode cX4_findings 3 = .ok (.invokestatic 133, 3) := by decide +kernel
theorem dX4_findings_6 : decode cX4_findings 6 = .ok (.ifCond .eq 12, 3) := by decide +kernel
theorem dX4_findings_9 : decode cX4_findings 9 = .ok (.aload_n 0, 1) := by decide +kernel
theorem dX4_findings_10 : decode cX4_findings 10 = .ok (.getfield 67, 3) := by decide +kernel
theorem dX4_findings_13 : decode cX4_findings 13 = .ok (.iload_n 1, 1) := by decide +kernel
theorem dX4_findings_14 : decode cX4_findings 14 = .ok (.iaload, 1) := by decide +kernel
theorem dX4_findings_15 : decode cX4_findings 15 = .ok (.goto 4, 3) := by decide +kernel
theorem dX4_findings_18 : decode cX4_findings 18 = .ok (.iconst (-1), 1) := by decide +kernel
theorem dX4_findings_19 : decode cX4_findings 19 = .ok (.ireturn, 1) := by decide +kernel
theorem dX4_digest_0 : decode cX4_digest 0 = .ok (.ldc2_w 270, 3) := by decide +kernel
theorem dX4_digest_3 : decode cX4_digest 3 = .ok (.lstore_n 1, 1) := by decide +kernel
theorem dX4_digest_4 : decode cX4_digest 4 = .ok (.iconst 0, 1) := by decide +kernel
theorem dX4_digest_5 : decode cX4_digest 5 = .ok (.istore_n 3, 1) := by decide +kernel
theorem dX4_digest_6 : decode cX4_digest 6 = .ok (.iload_n 3, 1) := by decide +kernel
theorem dX4_digest_7 : decode cX4_digest 7 = .ok (.bipush 12, 2) := by decide +kernel
theorem dX4_digest_9 : decode cX4_digest 9 = .ok (.if_icmp .gt 22, 3) := by decide +kernel
theorem dX4_digest_12 : decode cX4_digest 12 = .ok (.ldc2_w 272, 3) := by decide +kernel
theorem dX4_digest_15 : decode cX4_digest 15 = .ok (.lload_n 1, 1) := by decide +kernel
theorem dX4_digest_16 : decode cX4_digest 16 = .ok (.lmul, 1) := by decide +kernel
theorem dX4_digest_17 : decode cX4_digest 17 = .ok (.aload_n 0, 1) := by decide +kernel
theorem dX4_digest_18 : decode cX4_digest 18 = .ok (.iload_n 3, 1) := by decide +kernel
theorem dX4_digest_19 : decode cX4_digest 19 = .ok (.invokevirtual 274, 3) := by decide +kernel
theorem dX4_digest_22 : decode cX4_digest 22 = .ok (.i2l, 1) := by decide +kernel
theorem dX4_digest_23 : decode cX4_digest 23 = .ok (.ladd, 1) := by decide +kernel
theorem dX4_digest_24 : decode cX4_digest 24 = .ok (.lstore_n 1, 1) := by decide +kernel
theorem dX4_digest_25 : decode cX4_digest 25 = .ok (.iinc 3 1, 3) := by decide +kernel
theorem dX4_digest_28 : decode cX4_digest 28 = .ok (.goto (-22), 3) := by decide +kernel
theorem dX4_digest_31 : decode cX4_digest 31 = .ok (.iconst 0, 1) := by decide +kernel
theorem dX4_digest_32 : decode cX4_digest 32 = .ok (.istore_n 3, 1) := by decide +kernel
theorem dX4_digest_33 : decode cX4_digest 33 = .ok (.iload_n 3, 1) := by decide +kernel
theorem dX4_digest_34 : decode cX4_digest 34 = .ok (.aload_n 0, 1) := by decide +kernel
theorem dX4_digest_35 : decode cX4_digest 35 = .ok (.getfield 21, 3) := by decide +kernel
theorem dX4_digest_38 : decode cX4_digest 38 = .ok (.getfield 129, 3) := by decide +kernel
theorem dX4_digest_41 : decode cX4_digest 41 = .ok (.if_icmp .ge 39, 3) := by decide +kernel
theorem dX4_digest_44 : decode cX4_digest 44 = .ok (.iconst 0, 1) := by decide +kernel
theorem dX4_digest_45 : decode cX4_digest 45 = .ok (.istore 4, 2) := by decide +kernel
theorem dX4_digest_47 : decode cX4_digest 47 = .ok (.iload 4, 2) := by decide +kernel
theorem dX4_digest_49 : decode cX4_digest 49 = .ok (.iconst 5, 1) := by decide +kernel
theorem dX4_digest_50 : decode cX4_digest 50 = .ok (.if_icmp .gt 24, 3) := by decide +kernel
theorem dX4_digest_53 : decode cX4_digest 53 = .ok (.ldc2_w 272, 3) := by decide +kernel
theorem dX4_digest_56 : decode cX4_digest 56 = .ok (.lload_n 1, 1) := by decide +kernel
theorem dX4_digest_57 : decode cX4_digest 57 = .ok (.lmul, 1) := by decide +kernel
theorem dX4_digest_58 : decode cX4_digest 58 = .ok (.aload_n 0, 1) := by decide +kernel
theorem dX4_digest_59 : decode cX4_digest 59 = .ok (.iload_n 3, 1) := by decide +kernel
theorem dX4_digest_60 : decode cX4_digest 60 = .ok (.iload 4, 2) := by decide +kernel
theorem dX4_digest_62 : decode cX4_digest 62 = .ok (.invokevirtual 137, 3) := by decide +kernel
theorem dX4_digest_65 : decode cX4_digest 65 = .ok (.i2l, 1) := by decide +kernel
theorem dX4_digest_66 : decode cX4_digest 66 = .ok (.ladd, 1) := by decide +kernel
theorem dX4_digest_67 : decode cX4_digest 67 = .ok (.lstore_n 1, 1) := by decide +kernel
theorem dX4_digest_68 : decode cX4_digest 68 = .ok (.iinc 4 1, 3) := by decide +kernel
theorem dX4_digest_71 : decode cX4_digest 71 = .ok (.goto (-24), 3) := by decide +kernel
theorem dX4_digest_74 : decode cX4_digest 74 = .ok (.iinc 3 1, 3) := by decide +kernel
theorem dX4_digest_77 : decode cX4_digest 77 = .ok (.goto (-44), 3) := by decide +kernel
theorem dX4_digest_80 : decode cX4_digest 80 = .ok (.iconst 0, 1) := by decide +kernel
theorem dX4_digest_81 : decode cX4_digest 81 = .ok (.istore_n 3, 1) := by decide +kernel
theorem dX4_digest_82 : decode cX4_digest 82 = .ok (.iload_n 3, 1) := by decide +kernel
theorem dX4_digest_83 : decode cX4_digest 83 = .ok (.iconst 3, 1) := by decide +kernel
theorem dX4_digest_84 : decode cX4_digest 84 = .ok (.if_icmp .ge 26, 3) := by decide +kernel
theorem dX4_digest_87 : decode cX4_digest 87 = .ok (.ldc2_w 272, 3) := by decide +kernel
theorem dX4_digest_90 : decode cX4_digest 90 = .ok (.lload_n 1, 1) := by decide +kernel
theorem dX4_digest_91 : decode cX4_digest 91 = .ok (.lmul, 1) := by decide +kernel
theorem dX4_digest_92 : decode cX4_digest 92 = .ok (.aload_n 0, 1) := by decide +kernel
theorem dX4_digest_93 : decode cX4_digest 93 = .ok (.getfield 39, 3) := by decide +kernel
theorem dX4_digest_96 : decode cX4_digest 96 = .ok (.iload_n 3, 1) := by decide +kernel
theorem dX4_digest_97 : decode cX4_digest 97 = .ok (.aaload, 1) := by decide +kernel
theorem dX4_digest_98 : decode cX4_digest 98 = .ok (.getfield 72, 3) := by decide +kernel
theorem dX4_digest_101 : decode cX4_digest 101 = .ok (.i2l, 1) := by decide +kernel
theorem dX4_digest_102 : decode cX4_digest 102 = .ok (.ladd, 1) := by decide +kernel
theorem dX4_digest_103 : decode cX4_digest 103 = .ok (.lstore_n 1, 1) := by decide +kernel
theorem dX4_digest_104 : decode cX4_digest 104 = .ok (.iinc 3 1, 3) := by decide +kernel
theorem dX4_digest_107 : decode cX4_digest 107 = .ok (.goto (-25), 3) := by decide +kernel
theorem dX4_digest_110 : decode cX4_digest 110 = .ok (.iconst 0, 1) := by decide +kernel
theorem dX4_digest_111 : decode cX4_digest 111 = .ok (.istore_n 3, 1) := by decide +kernel
theorem dX4_digest_112 : decode cX4_digest 112 = .ok (.iload_n 3, 1) := by decide +kernel
theorem dX4_digest_113 : decode cX4_digest 113 = .ok (.bipush 6, 2) := by decide +kernel
theorem dX4_digest_115 : decode cX4_digest 115 = .ok (.if_icmp .ge 20, 3) := by decide +kernel
theorem dX4_digest_118 : decode cX4_digest 118 = .ok (.aload_n 0, 1) := by decide +kernel
theorem dX4_digest_119 : decode cX4_digest 119 = .ok (.getfield 11, 3) := by decide +kernel
theorem dX4_digest_122 : decode cX4_digest 122 = .ok (.iload_n 3, 1) := by decide +kernel
theorem dX4_digest_123 : decode cX4_digest 123 = .ok (.aaload, 1) := by decide +kernel
theorem dX4_digest_124 : decode cX4_digest 124 = .ok (.lload_n 1, 1) := by decide +kernel
theorem dX4_digest_125 : decode cX4_digest 125 = .ok (.invokevirtual 276, 3) := by decide +kernel
theorem dX4_digest_128 : decode cX4_digest 128 = .ok (.lstore_n 1, 1) := by decide +kernel
theorem dX4_digest_129 : decode cX4_digest 129 = .ok (.iinc 3 1, 3) := by decide +kernel
theorem dX4_digest_132 : decode cX4_digest 132 = .ok (.goto (-20), 3) := by decide +kernel
theorem dX4_digest_135 : decode cX4_digest 135 = .ok (.iconst 0, 1) := by decide +kernel
theorem dX4_digest_136 : decode cX4_digest 136 = .ok (.istore_n 3, 1) := by decide +kernel
theorem dX4_digest_137 : decode cX4_digest 137 = .ok (.iload_n 3, 1) := by decide +kernel
theorem dX4_digest_138 : decode cX4_digest 138 = .ok (.iconst 4, 1) := by decide +kernel
theorem dX4_digest_139 : decode cX4_digest 139 = .ok (.if_icmp .ge 20, 3) := by decide +kernel
theorem dX4_digest_142 : decode cX4_digest 142 = .ok (.aload_n 0, 1) := by decide +kernel
theorem dX4_digest_143 : decode cX4_digest 143 = .ok (.getfield 15, 3) := by decide +kernel
theorem dX4_digest_146 : decode cX4_digest 146 = .ok (.iload_n 3, 1) := by decide +kernel
theorem dX4_digest_147 : decode cX4_digest 147 = .ok (.aaload, 1) := by decide +kernel
theorem dX4_digest_148 : decode cX4_digest 148 = .ok (.lload_n 1, 1) := by decide +kernel
theorem dX4_digest_149 : decode cX4_digest 149 = .ok (.invokevirtual 276, 3) := by decide +kernel
theorem dX4_digest_152 : decode cX4_digest 152 = .ok (.lstore_n 1, 1) := by decide +kernel
theorem dX4_digest_153 : decode cX4_digest 153 = .ok (.iinc 3 1, 3) := by decide +kernel
theorem dX4_digest_156 : decode cX4_digest 156 = .ok (.goto (-19), 3) := by decide +kernel
theorem dX4_digest_159 : decode cX4_digest 159 = .ok (.lload_n 1, 1) := by decide +kernel
theorem dX4_digest_160 : decode cX4_digest 160 = .ok (.lreturn, 1) := by decide +kernel
theorem dX4_within_0 : decode cX4_within 0 = .ok (.iload_n 1, 1) := by decide +kernel
theorem dX4_within_1 : decode cX4_within 1 = .ok (.iload_n 0, 1) := by decide +kernel
theorem dX4_within_2 : decode cX4_within 2 = .ok (.if_icmp .gt 12, 3) := by decide +kernel
theorem dX4_within_5 : decode cX4_within 5 = .ok (.iload_n 0, 1) := by decide +kernel
theorem dX4_within_6 : decode cX4_within 6 = .ok (.iload_n 2, 1) := by decide +kernel
theorem dX4_within_7 : decode cX4_within 7 = .ok (.if_icmp .gt 7, 3) := by decide +kernel
theorem dX4_within_10 : decode cX4_within 10 = .ok (.iconst 1, 1) := by decide +kernel
theorem dX4_within_11 : decode cX4_within 11 = .ok (.goto 4, 3) := by decide +kernel
theorem dX4_within_14 : decode cX4_within 14 = .ok (.iconst 0, 1) := by decide +kernel
theorem dX4_within_15 : decode cX4_within 15 = .ok (.ireturn, 1) := by decide +kernel
theorem dX4_isRow_0 : decode cX4_isRow 0 = .ok (.iload_n 0, 1) := by decide +kernel
theorem dX4_isRow_1 : decode cX4_isRow 1 = .ok (.iconst 0, 1) := by decide +kernel
theorem dX4_isRow_2 : decode cX4_isRow 2 = .ok (.iconst 5, 1) := by decide +kernel
theorem dX4_isRow_3 : decode cX4_isRow 3 = .ok (.invokestatic 133, 3) := by decide +kernel
theorem dX4_isRow_6 : decode cX4_isRow 6 = .ok (.ireturn, 1) := by decide +kernel
theorem dX4_isText_0 : decode cX4_isText 0 = .ok (.iload_n 0, 1) := by decide +kernel
theorem dX4_isText_1 : decode cX4_isText 1 = .ok (.iconst 0, 1) := by decide +kernel
theorem dX4_isText_2 : decode cX4_isText 2 = .ok (.iconst 3, 1) := by decide +kernel
theorem dX4_isText_3 : decode cX4_isText 3 = .ok (.invokestatic 133, 3) := by decide +kernel
theorem dX4_isText_6 : decode cX4_isText 6 = .ok (.ireturn, 1) := by decide +kernel
theorem dX4_isPlace_0 : decode cX4_isPlace 0 = .ok (.iload_n 0, 1) := by decide +kernel
theorem dX4_isPlace_1 : decode cX4_isPlace 1 = .ok (.iconst 0, 1) := by decide +kernel
theorem dX4_isPlace_2 : decode cX4_isPlace 2 = .ok (.iconst 2, 1) := by decide +kernel
theorem dX4_isPlace_3 : decode cX4_isPlace 3 = .ok (.invokestatic 133, 3) := by decide +kernel
theorem dX4_isPlace_6 : decode cX4_isPlace 6 = .ok (.ireturn, 1) := by decide +kernel
theorem dX4_isDay_0 : decode cX4_isDay 0 = .ok (.iload_n 1, 1) := by decide +kernel
theorem dX4_isDay_1 : decode cX4_isDay 1 = .ok (.iconst 0, 1) := by decide +kernel
theorem dX4_isDay_2 : decode cX4_isDay 2 = .ok (.aload_n 0, 1) := by decide +kernel
theorem dX4_isDay_3 : decode cX4_isDay 3 = .ok (.getfield 21, 3) := by decide +kernel
theorem dX4_isDay_6 : decode cX4_isDay 6 = .ok (.getfield 129, 3) := by decide +kernel
theorem dX4_isDay_9 : decode cX4_isDay 9 = .ok (.iconst 1, 1) := by decide +kernel
theorem dX4_isDay_10 : decode cX4_isDay 10 = .ok (.isub, 1) := by decide +kernel
theorem dX4_isDay_11 : decode cX4_isDay 11 = .ok (.invokestatic 133, 3) := by decide +kernel
theorem dX4_isDay_14 : decode cX4_isDay 14 = .ok (.ireturn, 1) := by decide +kernel
theorem dX4_noDays_0 : decode cX4_noDays 0 = .ok (.aload_n 0, 1) := by decide +kernel
theorem dX4_noDays_1 : decode cX4_noDays 1 = .ok (.getfield 21, 3) := by decide +kernel
theorem dX4_noDays_4 : decode cX4_noDays 4 = .ok (.getfield 129, 3) := by decide +kernel
theorem dX4_noDays_7 : decode cX4_noDays 7 = .ok (.ifCond .ne 7, 3) := by decide +kernel
theorem dX4_noDays_10 : decode cX4_noDays 10 = .ok (.iconst 1, 1) := by decide +kernel
theorem dX4_noDays_11 : decode cX4_noDays 11 = .ok (.goto 4, 3) := by decide +kernel
theorem dX4_noDays_14 : decode cX4_noDays 14 = .ok (.iconst 0, 1) := by decide +kernel
theorem dX4_noDays_15 : decode cX4_noDays 15 = .ok (.ireturn, 1) := by decide +kernel
theorem dX4_found_0 : decode cX4_found 0 = .ok (.aload_n 0, 1) := by decide +kernel
theorem dX4_found_1 : decode cX4_found 1 = .ok (.iload_n 1, 1) := by decide +kernel
theorem dX4_found_2 : decode cX4_found 2 = .ok (.putfield 64, 3) := by decide +kernel
theorem dX4_found_5 : decode cX4_found 5 = .ok (.aload_n 0, 1) := by decide +kernel
theorem dX4_found_6 : decode cX4_found 6 = .ok (.getfield 67, 3) := by decide +kernel
theorem dX4_found_9 : decode cX4_found 9 = .ok (.iload_n 1, 1) := by decide +kernel
theorem dX4_found_10 : decode cX4_found 10 = .ok (.dup2, 1) := by decide +kernel
theorem dX4_found_11 : decode cX4_found 11 = .ok (.iaload, 1) := by decide +kernel
theorem dX4_found_12 : decode cX4_found 12 = .ok (.iconst 1, 1) := by decide +kernel
theorem dX4_found_13 : decode cX4_found 13 = .ok (.iadd, 1) := by decide +kernel
theorem dX4_found_14 : decode cX4_found 14 = .ok (.iastore, 1) := by decide +kernel
theorem dX4_found_15 : decode cX4_found 15 = .ok (.bipush (-3), 2) := by decide +kernel
theorem dX4_found_17 : decode cX4_found 17 = .ok (.ireturn, 1) := by decide +kernel
theorem dX4_missingPlace_0 : decode cX4_missingPlace 0 = .ok (.aload_n 0, 1) := by decide +kernel
theorem dX4_missingPlace_1 : decode cX4_missingPlace 1 = .ok (.invokevirtual 94, 3) := by decide +kernel
theorem dX4_missingPlace_4 : decode cX4_missingPlace 4 = .ok (.ifCond .ne 5, 3) := by decide +kernel
theorem dX4_missingPlace_7 : decode cX4_missingPlace 7 = .ok (.iconst 1, 1) := by decide +kernel
theorem dX4_missingPlace_8 : decode cX4_missingPlace 8 = .ok (.ireturn, 1) := by decide +kernel
theorem dX4_missingPlace_9 : decode cX4_missingPlace 9 = .ok (.aload_n 0, 1) := by decide +kernel
theorem dX4_missingPlace_10 : decode cX4_missingPlace 10 = .ok (.iload_n 1, 1) := by decide +kernel
theorem dX4_missingPlace_11 : decode cX4_missingPlace 11 = .ok (.iconst 1, 1) := by decide +kernel
theorem dX4_missingPlace_12 : decode cX4_missingPlace 12 = .ok (.invokevirtual 101, 3) := by decide +kernel
theorem dX4_missingPlace_15 : decode cX4_missingPlace 15 = .ok (.ifCond .eq 7, 3) := by decide +kernel
theorem dX4_missingPlace_18 : decode cX4_missingPlace 18 = .ok (.iconst 0, 1) := by decide +kernel
theorem dX4_missingPlace_19 : decode cX4_missingPlace 19 = .ok (.goto 4, 3) := by decide +kernel
theorem dX4_missingPlace_22 : decode cX4_missingPlace 22 = .ok (.iconst 2, 1) := by decide +kernel
theorem dX4_missingPlace_23 : decode cX4_missingPlace 23 = .ok (.ireturn, 1) := by decide +kernel
theorem dX4_wrongNumbers_0 : decode cX4_wrongNumbers 0 = .ok (.aload_n 0, 1) := by decide +kernel
theorem dX4_wrongNumbers_1 : decode cX4_wrongNumbers 1 = .ok (.invokevirtual 94, 3) := by decide +kernel
theorem dX4_wrongNumbers_4 : decode cX4_wrongNumbers 4 = .ok (.ifCond .ne 5, 3) := by decide +kernel
theorem dX4_wrongNumbers_7 : decode cX4_wrongNumbers 7 = .ok (.iconst 1, 1) := by decide +kernel
theorem dX4_wrongNumbers_8 : decode cX4_wrongNumbers 8 = .ok (.ireturn, 1) := by decide +kernel
theorem dX4_wrongNumbers_9 : decode cX4_wrongNumbers 9 = .ok (.aload_n 0, 1) := by decide +kernel
theorem dX4_wrongNumbers_10 : decode cX4_wrongNumbers 10 = .ok (.getfield 98, 3) := by decide +kernel
theorem dX4_wrongNumbers_13 : decode cX4_wrongNumbers 13 = .ok (.iconst 1, 1) := by decide +kernel
theorem dX4_wrongNumbers_14 : decode cX4_wrongNumbers 14 = .ok (.bipush 20, 2) := by decide +kernel
theorem dX4_wrongNumbers_16 : decode cX4_wrongNumbers 16 = .ok (.invokestatic 133, 3) := by decide +kernel
theorem dX4_wrongNumbers_19 : decode cX4_wrongNumbers 19 = .ok (.ifCond .ne 5, 3) := by decide +kernel
theorem dX4_wrongNumbers_22 : decode cX4_wrongNumbers 22 = .ok (.iconst 5, 1) := by decide +kernel
theorem dX4_wrongNumbers_23 : decode cX4_wrongNumbers 23 = .ok (.ireturn, 1) := by decide +kernel
theorem dX4_wrongNumbers_24 : decode cX4_wrongNumbers 24 = .ok (.iconst 0, 1) := by decide +kernel
theorem dX4_wrongNumbers_25 : decode cX4_wrongNumbers 25 = .ok (.istore_n 1, 1) := by decide +kernel
theorem dX4_wrongNumbers_26 : decode cX4_wrongNumbers 26 = .ok (.iload_n 1, 1) := by decide +kernel
theorem dX4_wrongNumbers_27 : decode cX4_wrongNumbers 27 = .ok (.aload_n 0, 1) := by decide +kernel
theorem dX4_wrongNumbers_28 : decode cX4_wrongNumbers 28 = .ok (.getfield 98, 3) := by decide +kernel
theorem dX4_wrongNumbers_31 : decode cX4_wrongNumbers 31 = .ok (.if_icmp .ge 20, 3) := by decide +kernel
theorem dX4_wrongNumbers_34 : decode cX4_wrongNumbers 34 = .ok (.aload_n 0, 1) := by decide +kernel
theorem dX4_wrongNumbers_35 : decode cX4_wrongNumbers 35 = .ok (.getfield 91, 3) := by decide +kernel
theorem dX4_wrongNumbers_38 : decode cX4_wrongNumbers 38 = .ok (.iload_n 1, 1) := by decide +kernel
theorem dX4_wrongNumbers_39 : decode cX4_wrongNumbers 39 = .ok (.iaload, 1) := by decide +kernel
theorem dX4_wrongNumbers_40 : decode cX4_wrongNumbers 40 = .ok (.ifCond .ge 5, 3) := by decide +kernel
theorem dX4_wrongNumbers_43 : decode cX4_wrongNumbers 43 = .ok (.iconst 3, 1) := by decide +kernel
theorem dX4_wrongNumbers_44 : decode cX4_wrongNumbers 44 = .ok (.ireturn, 1) := by decide +kernel
theorem dX4_wrongNumbers_45 : decode cX4_wrongNumbers 45 = .ok (.iinc 1 1, 3) := by decide +kernel
theorem dX4_wrongNumbers_48 : decode cX4_wrongNumbers 48 = .ok (.goto (-22), 3) := by decide +kernel
theorem dX4_wrongNumbers_51 : decode cX4_wrongNumbers 51 = .ok (.iconst 0, 1) := by decide +kernel
theorem dX4_wrongNumbers_52 : decode cX4_wrongNumbers 52 = .ok (.ireturn, 1) := by decide +kernel
theorem dX4_faultOf_0 : decode cX4_faultOf 0 = .ok (.iconst 0, 1) := by decide +kernel
theorem dX4_faultOf_1 : decode cX4_faultOf 1 = .ok (.istore_n 1, 1) := by decide +kernel
theorem dX4_faultOf_2 : decode cX4_faultOf 2 = .ok (.iconst 0, 1) := by decide +kernel
theorem dX4_faultOf_3 : decode cX4_faultOf 3 = .ok (.istore_n 2, 1) := by decide +kernel
theorem dX4_faultOf_4 : decode cX4_faultOf 4 = .ok (.iload_n 2, 1) := by decide +kernel
theorem dX4_faultOf_5 : decode cX4_faultOf 5 = .ok (.aload_n 0, 1) := by decide +kernel
theorem dX4_faultOf_6 : decode cX4_faultOf 6 = .ok (.getfield 98, 3) := by decide +kernel
theorem dX4_faultOf_9 : decode cX4_faultOf 9 = .ok (.if_icmp .ge 53, 3) := by decide +kernel
theorem dX4_faultOf_12 : decode cX4_faultOf 12 = .ok (.aload_n 0, 1) := by decide +kernel
theorem dX4_faultOf_13 : decode cX4_faultOf 13 = .ok (.getfield 91, 3) := by decide +kernel
theorem dX4_faultOf_16 : decode cX4_faultOf 16 = .ok (.iload_n 2, 1) := by decide +kernel
theorem dX4_faultOf_17 : decode cX4_faultOf 17 = .ok (.iaload, 1) := by decide +kernel
theorem dX4_faultOf_18 : decode cX4_faultOf 18 = .ok (.bipush 32, 2) := by decide +kernel
theorem dX4_faultOf_20 : decode cX4_faultOf 20 = .ok (.if_icmp .ne 9, 3) := by decide +kernel
theorem dX4_faultOf_23 : decode cX4_faultOf 23 = .ok (.iinc 2 1, 3) := by decide +kernel
theorem dX4_faultOf_26 : decode cX4_faultOf 26 = .ok (.goto (-22), 3) := by decide +kernel
theorem dX4_faultOf_29 : decode cX4_faultOf 29 = .ok (.iload_n 1, 1) := by decide +kernel
theorem dX4_faultOf_30 : decode cX4_faultOf 30 = .ok (.bipush 9, 2) := by decide +kernel
theorem dX4_faultOf_32 : decode cX4_faultOf 32 = .ok (.if_icmp .ne 7, 3) := by decide +kernel
theorem dX4_faultOf_35 : decode cX4_faultOf 35 = .ok (.iload_n 2, 1) := by decide +kernel
theorem dX4_faultOf_36 : decode cX4_faultOf 36 = .ok (.goto 8, 3) := by decide +kernel
theorem dX4_faultOf_39 : decode cX4_faultOf 39 = .ok (.aload_n 0, 1) := by decide +kernel
theorem dX4_faultOf_40 : decode cX4_faultOf 40 = .ok (.iload_n 2, 1) := by decide +kernel
theorem dX4_faultOf_41 : decode cX4_faultOf 41 = .ok (.invokestatic 280, 3) := by decide +kernel
theorem dX4_faultOf_44 : decode cX4_faultOf 44 = .ok (.istore_n 3, 1) := by decide +kernel
theorem dX4_faultOf_45 : decode cX4_faultOf 45 = .ok (.iload_n 3, 1) := by decide +kernel
theorem dX4_faultOf_46 : decode cX4_faultOf 46 = .ok (.bipush (-9), 2) := by decide +kernel
theorem dX4_faultOf_48 : decode cX4_faultOf 48 = .ok (.if_icmp .eq 5, 3) := by decide +kernel
theorem dX4_faultOf_51 : decode cX4_faultOf 51 = .ok (.iload_n 3, 1) := by decide +kernel
theorem dX4_faultOf_52 : decode cX4_faultOf 52 = .ok (.ireturn, 1) := by decide +kernel
theorem dX4_faultOf_53 : decode cX4_faultOf 53 = .ok (.iinc 1 1, 3) := by decide +kernel
theorem dX4_faultOf_56 : decode cX4_faultOf 56 = .ok (.iinc 2 3, 3) := by decide +kernel
theorem dX4_faultOf_59 : decode cX4_faultOf 59 = .ok (.goto (-55), 3) := by decide +kernel
theorem dX4_faultOf_62 : decode cX4_faultOf 62 = .ok (.iload_n 1, 1) := by decide +kernel
theorem dX4_faultOf_63 : decode cX4_faultOf 63 = .ok (.iconst 2, 1) := by decide +kernel
theorem dX4_faultOf_64 : decode cX4_faultOf 64 = .ok (.if_icmp .ge 10, 3) := by decide +kernel
theorem dX4_faultOf_67 : decode cX4_faultOf 67 = .ok (.aload_n 0, 1) := by decide +kernel
theorem dX4_faultOf_68 : decode cX4_faultOf 68 = .ok (.getfield 98, 3) := by decide +kernel
theorem dX4_faultOf_71 : decode cX4_faultOf 71 = .ok (.goto 5, 3) := by decide +kernel
theorem dX4_faultOf_74 : decode cX4_faultOf 74 = .ok (.bipush (-9), 2) := by decide +kernel
theorem dX4_faultOf_76 : decode cX4_faultOf 76 = .ok (.ireturn, 1) := by decide +kernel
theorem dX4_faultOfItem_0 : decode cX4_faultOfItem 0 = .ok (.aload_n 0, 1) := by decide +kernel
theorem dX4_faultOfItem_1 : decode cX4_faultOfItem 1 = .ok (.getfield 91, 3) := by decide +kernel
theorem dX4_faultOfItem_4 : decode cX4_faultOfItem 4 = .ok (.iload_n 1, 1) := by decide +kernel
theorem dX4_faultOfItem_5 : decode cX4_faultOfItem 5 = .ok (.iaload, 1) := by decide +kernel
theorem dX4_faultOfItem_6 : decode cX4_faultOfItem 6 = .ok (.invokestatic 283, 3) := by decide +kernel
theorem dX4_faultOfItem_9 : decode cX4_faultOfItem 9 = .ok (.bipush (-9), 2) := by decide +kernel
theorem dX4_faultOfItem_11 : decode cX4_faultOfItem 11 = .ok (.if_icmp .ne 5, 3) := by decide +kernel
theorem dX4_faultOfItem_14 : decode cX4_faultOfItem 14 = .ok (.iload_n 1, 1) := by decide +kernel
theorem dX4_faultOfItem_15 : decode cX4_faultOfItem 15 = .ok (.ireturn, 1) := by decide +kernel
theorem dX4_faultOfItem_16 : decode cX4_faultOfItem 16 = .ok (.iload_n 1, 1) := by decide +kernel
theorem dX4_faultOfItem_17 : decode cX4_faultOfItem 17 = .ok (.iconst 1, 1) := by decide +kernel
theorem dX4_faultOfItem_18 : decode cX4_faultOfItem 18 = .ok (.iadd, 1) := by decide +kernel
theorem dX4_faultOfItem_19 : decode cX4_faultOfItem 19 = .ok (.istore_n 2, 1) := by decide +kernel
theorem dX4_faultOfItem_20 : decode cX4_faultOfItem 20 = .ok (.iload_n 2, 1) := by decide +kernel
theorem dX4_faultOfItem_21 : decode cX4_faultOfItem 21 = .ok (.iload_n 1, 1) := by decide +kernel
theorem dX4_faultOfItem_22 : decode cX4_faultOfItem 22 = .ok (.iconst 2, 1) := by decide +kernel
theorem dX4_faultOfItem_23 : decode cX4_faultOfItem 23 = .ok (.iadd, 1) := by decide +kernel
theorem dX4_faultOfItem_24 : decode cX4_faultOfItem 24 = .ok (.if_icmp .gt 40, 3) := by decide +kernel
theorem dX4_faultOfItem_27 : decode cX4_faultOfItem 27 = .ok (.iload_n 2, 1) := by decide +kernel
theorem dX4_faultOfItem_28 : decode cX4_faultOfItem 28 = .ok (.aload_n 0, 1) := by decide +kernel
theorem dX4_faultOfItem_29 : decode cX4_faultOfItem 29 = .ok (.getfield 98, 3) := by decide +kernel
theorem dX4_faultOfItem_32 : decode cX4_faultOfItem 32 = .ok (.if_icmp .lt 8, 3) := by decide +kernel
theorem dX4_faultOfItem_35 : decode cX4_faultOfItem 35 = .ok (.aload_n 0, 1) := by decide +kernel
theorem dX4_faultOfItem_36 : decode cX4_faultOfItem 36 = .ok (.getfield 98, 3) := by decide +kernel
theorem dX4_faultOfItem_39 : decode cX4_faultOfItem 39 = .ok (.ireturn, 1) := by decide +kernel
theorem dX4_faultOfItem_40 : decode cX4_faultOfItem 40 = .ok (.aload_n 0, 1) := by decide +kernel
theorem dX4_faultOfItem_41 : decode cX4_faultOfItem 41 = .ok (.getfield 91, 3) := by decide +kernel
theorem dX4_faultOfItem_44 : decode cX4_faultOfItem 44 = .ok (.iload_n 2, 1) := by decide +kernel
theorem dX4_faultOfItem_45 : decode cX4_faultOfItem 45 = .ok (.iaload, 1) := by decide +kernel
theorem dX4_faultOfItem_46 : decode cX4_faultOfItem 46 = .ok (.bipush 48, 2) := by decide +kernel
theorem dX4_faultOfItem_48 : decode cX4_faultOfItem 48 = .ok (.bipush 57, 2) := by decide +kernel
theorem dX4_faultOfItem_50 : decode cX4_faultOfItem 50 = .ok (.invokestatic 133, 3) := by decide +kernel
theorem dX4_faultOfItem_53 : decode cX4_faultOfItem 53 = .ok (.ifCond .ne 5, 3) := by decide +kernel
theorem dX4_faultOfItem_56 : decode cX4_faultOfItem 56 = .ok (.iload_n 2, 1) := by decide +kernel
theorem dX4_faultOfItem_57 : decode cX4_faultOfItem 57 = .ok (.ireturn, 1) := by decide +kernel
theorem dX4_faultOfItem_58 : decode cX4_faultOfItem 58 = .ok (.iinc 2 1, 3) := by decide +kernel
theorem dX4_faultOfItem_61 : decode cX4_faultOfItem 61 = .ok (.goto (-41), 3) := by decide +kernel
theorem dX4_faultOfItem_64 : decode cX4_faultOfItem 64 = .ok (.bipush (-9), 2) := by decide +kernel
theorem dX4_faultOfItem_66 : decode cX4_faultOfItem 66 = .ok (.ireturn, 1) := by decide +kernel
theorem dX4_kindByLetter_0 : decode cX4_kindByLetter 0 = .ok (.iload_n 0, 1) := by decide +kernel
theorem dX4_kindByLetter_1 : decode cX4_kindByLetter 1 = .ok (.tableswitch 87 100 114 #[75, 83, 77, 87, 85, 87, 87, 87, 87, 87, 87, 87, 81, 87, 79], 75) := by decide +kernel
theorem dX4_kindByLetter_76 : decode cX4_kindByLetter 76 = .ok (.iconst 0, 1) := by decide +kernel
theorem dX4_kindByLetter_77 : decode cX4_kindByLetter 77 = .ok (.ireturn, 1) := by decide +kernel
theorem dX4_kindByLetter_78 : decode cX4_kindByLetter 78 = .ok (.iconst 1, 1) := by decide +kernel
theorem dX4_kindByLetter_79 : decode cX4_kindByLetter 79 = .ok (.ireturn, 1) := by decide +kernel
theorem dX4_kindByLetter_80 : decode cX4_kindByLetter 80 = .ok (.iconst 2, 1) := by decide +kernel
theorem dX4_kindByLetter_81 : decode cX4_kindByLetter 81 = .ok (.ireturn, 1) := by decide +kernel
theorem dX4_kindByLetter_82 : decode cX4_kindByLetter 82 = .ok (.iconst 3, 1) := by decide +kernel
theorem dX4_kindByLetter_83 : decode cX4_kindByLetter 83 = .ok (.ireturn, 1) := by decide +kernel
theorem dX4_kindByLetter_84 : decode cX4_kindByLetter 84 = .ok (.iconst 4, 1) := by decide +kernel
theorem dX4_kindByLetter_85 : decode cX4_kindByLetter 85 = .ok (.ireturn, 1) := by decide +kernel
theorem dX4_kindByLetter_86 : decode cX4_kindByLetter 86 = .ok (.iconst 5, 1) := by decide +kernel
theorem dX4_kindByLetter_87 : decode cX4_kindByLetter 87 = .ok (.ireturn, 1) := by decide +kernel
theorem dX4_kindByLetter_88 : decode cX4_kindByLetter 88 = .ok (.bipush (-9), 2) := by decide +kernel
theorem dX4_kindByLetter_90 : decode cX4_kindByLetter 90 = .ok (.ireturn, 1) := by decide +kernel
theorem dX4_isOfKind_0 : decode cX4_isOfKind 0 = .ok (.iload_n 0, 1) := by decide +kernel
theorem dX4_isOfKind_1 : decode cX4_isOfKind 1 = .ok (.iload_n 1, 1) := by decide +kernel
theorem dX4_isOfKind_2 : decode cX4_isOfKind 2 = .ok (.if_icmp .eq 23, 3) := by decide +kernel
theorem dX4_isOfKind_5 : decode cX4_isOfKind 5 = .ok (.iload_n 0, 1) := by decide +kernel
theorem dX4_isOfKind_6 : decode cX4_isOfKind 6 = .ok (.iconst 4, 1) := by decide +kernel
theorem dX4_isOfKind_7 : decode cX4_isOfKind 7 = .ok (.if_icmp .ne 8, 3) := by decide +kernel
theorem dX4_isOfKind_10 : decode cX4_isOfKind 10 = .ok (.iload_n 1, 1) := by decide +kernel
theorem dX4_isOfKind_11 : decode cX4_isOfKind 11 = .ok (.iconst 1, 1) := by decide +kernel
theorem dX4_isOfKind_12 : decode cX4_isOfKind 12 = .ok (.if_icmp .eq 13, 3) := by decide +kernel
theorem dX4_isOfKind_15 : decode cX4_isOfKind 15 = .ok (.iload_n 0, 1) := by decide +kernel
theorem dX4_isOfKind_16 : decode cX4_isOfKind 16 = .ok (.iconst 5, 1) := by decide +kernel
theorem dX4_isOfKind_17 : decode cX4_isOfKind 17 = .ok (.if_icmp .ne 12, 3) := by decide +kernel
theorem dX4_isOfKind_20 : decode cX4_isOfKind 20 = .ok (.iload_n 1, 1) := by decide +kernel
theorem dX4_isOfKind_21 : decode cX4_isOfKind 21 = .ok (.iconst 3, 1) := by decide +kernel
theorem dX4_isOfKind_22 : decode cX4_isOfKind 22 = .ok (.if_icmp .ne 7, 3) := by decide +kernel
theorem dX4_isOfKind_25 : decode cX4_isOfKind 25 = .ok (.iconst 1, 1) := by decide +kernel
theorem dX4_isOfKind_26 : decode cX4_isOfKind 26 = .ok (.goto 4, 3) := by decide +kernel
theorem dX4_isOfKind_29 : decode cX4_isOfKind 29 = .ok (.iconst 0, 1) := by decide +kernel
theorem dX4_isOfKind_30 : decode cX4_isOfKind 30 = .ok (.ireturn, 1) := by decide +kernel
theorem dX4_markOf_0 : decode cX4_markOf 0 = .ok (.iload_n 2, 1) := by decide +kernel
theorem dX4_markOf_1 : decode cX4_markOf 1 = .ok (.tableswitch 48 3 5 #[27, 34, 41], 27) := by decide +kernel
theorem dX4_markOf_28 : decode cX4_markOf 28 = .ok (.aload_n 0, 1) := by decide +kernel
theorem dX4_markOf_29 : decode cX4_markOf 29 = .ok (.iload_n 1, 1) := by decide +kernel
theorem dX4_markOf_30 : decode cX4_markOf 30 = .ok (.iconst 0, 1) := by decide +kernel
theorem dX4_markOf_31 : decode cX4_markOf 31 = .ok (.invokevirtual 286, 3) := by decide +kernel
theorem dX4_markOf_34 : decode cX4_markOf 34 = .ok (.ireturn, 1) := by decide +kernel
theorem dX4_markOf_35 : decode cX4_markOf 35 = .ok (.aload_n 0, 1) := by decide +kernel
theorem dX4_markOf_36 : decode cX4_markOf 36 = .ok (.iload_n 1, 1) := by decide +kernel
theorem dX4_markOf_37 : decode cX4_markOf 37 = .ok (.iconst 1, 1) := by decide +kernel
theorem dX4_markOf_38 : decode cX4_markOf 38 = .ok (.invokevirtual 289, 3) := by decide +kernel
theorem dX4_markOf_41 : decode cX4_markOf 41 = .ok (.ireturn, 1) := by decide +kernel
theorem dX4_markOf_42 : decode cX4_markOf 42 = .ok (.aload_n 0, 1) := by decide +kernel
theorem dX4_markOf_43 : decode cX4_markOf 43 = .ok (.iload_n 1, 1) := by decide +kernel
theorem dX4_markOf_44 : decode cX4_markOf 44 = .ok (.iconst 3, 1) := by decide +kernel
theorem dX4_markOf_45 : decode cX4_markOf 45 = .ok (.invokevirtual 286, 3) := by decide +kernel
theorem dX4_markOf_48 : decode cX4_markOf 48 = .ok (.ireturn, 1) := by decide +kernel
theorem dX4_markOf_49 : decode cX4_markOf 49 = .ok (.aload_n 0, 1) := by decide +kernel
theorem dX4_markOf_50 : decode cX4_markOf 50 = .ok (.iload_n 1, 1) := by decide +kernel
theorem dX4_markOf_51 : decode cX4_markOf 51 = .ok (.iconst 0, 1) := by decide +kernel
theorem dX4_markOf_52 : decode cX4_markOf 52 = .ok (.invokevirtual 289, 3) := by decide +kernel
theorem dX4_markOf_55 : decode cX4_markOf 55 = .ok (.ireturn, 1) := by decide +kernel
theorem dX4_grindsMoreThan_0 : decode cX4_grindsMoreThan 0 = .ok (.aload_n 0, 1) := by decide +kernel
theorem dX4_grindsMoreThan_1 : decode cX4_grindsMoreThan 1 = .ok (.getfield 43, 3) := by decide +kernel
theorem dX4_grindsMoreThan_4 : decode cX4_grindsMoreThan 4 = .ok (.aload_n 0, 1) := by decide +kernel
theorem dX4_grindsMoreThan_5 : decode cX4_grindsMoreThan 5 = .ok (.getfield 21, 3) := by decide +kernel
theorem dX4_grindsMoreThan_8 : decode cX4_grindsMoreThan 8 = .ok (.invokevirtual 207, 3) := by decide +kernel
theorem dX4_grindsMoreThan_11 : decode cX4_grindsMoreThan 11 = .ok (.aload_n 0, 1) := by decide +kernel
theorem dX4_grindsMoreThan_12 : decode cX4_grindsMoreThan 12 = .ok (.getfield 43, 3) := by decide +kernel
theorem dX4_grindsMoreThan_15 : decode cX4_grindsMoreThan 15 = .ok (.getfield 141, 3) := by decide +kernel
theorem dX4_grindsMoreThan_18 : decode cX4_grindsMoreThan 18 = .ok (.iload_n 1, 1) := by decide +kernel
theorem dX4_grindsMoreThan_19 : decode cX4_grindsMoreThan 19 = .ok (.iload_n 2, 1) := by decide +kernel
theorem dX4_grindsMoreThan_20 : decode cX4_grindsMoreThan 20 = .ok (.iastore, 1) := by decide +kernel
theorem dX4_grindsMoreThan_21 : decode cX4_grindsMoreThan 21 = .ok (.aload_n 0, 1) := by decide +kernel
theorem dX4_grindsMoreThan_22 : decode cX4_grindsMoreThan 22 = .ok (.getfield 21, 3) := by decide +kernel
theorem dX4_grindsMoreThan_25 : decode cX4_grindsMoreThan 25 = .ok (.iload_n 1, 1) := by decide +kernel
theorem dX4_grindsMoreThan_26 : decode cX4_grindsMoreThan 26 = .ok (.aload_n 0, 1) := by decide +kernel
theorem dX4_grindsMoreThan_27 : decode cX4_grindsMoreThan 27 = .ok (.getfield 28, 3) := by decide +kernel
theorem dX4_grindsMoreThan_30 : decode cX4_grindsMoreThan 30 = .ok (.getfield 166, 3) := by decide +kernel
theorem dX4_grindsMoreThan_33 : decode cX4_grindsMoreThan 33 = .ok (.aload_n 0, 1) := by decide +kernel
theorem dX4_grindsMoreThan_34 : decode cX4_grindsMoreThan 34 = .ok (.getfield 28, 3) := by decide +kernel
theorem dX4_grindsMoreThan_37 : decode cX4_grindsMoreThan 37 = .ok (.getfield 169, 3) := by decide +kernel
theorem dX4_grindsMoreThan_40 : decode cX4_grindsMoreThan 40 = .ok (.invokevirtual 150, 3) := by decide +kernel
theorem dX4_grindsMoreThan_43 : decode cX4_grindsMoreThan 43 = .ok (.aload_n 0, 1) := by decide +kernel
theorem dX4_grindsMoreThan_44 : decode cX4_grindsMoreThan 44 = .ok (.getfield 43, 3) := by decide +kernel
theorem dX4_grindsMoreThan_47 : decode cX4_grindsMoreThan 47 = .ok (.iload_n 1, 1) := by decide +kernel
theorem dX4_grindsMoreThan_48 : decode cX4_grindsMoreThan 48 = .ok (.aload_n 0, 1) := by decide +kernel
theorem dX4_grindsMoreThan_49 : decode cX4_grindsMoreThan 49 = .ok (.getfield 28, 3) := by decide +kernel
theorem dX4_grindsMoreThan_52 : decode cX4_grindsMoreThan 52 = .ok (.getfield 166, 3) := by decide +kernel
theorem dX4_grindsMoreThan_55 : decode cX4_grindsMoreThan 55 = .ok (.aload_n 0, 1) := by decide +kernel
theorem dX4_grindsMoreThan_56 : decode cX4_grindsMoreThan 56 = .ok (.getfield 28, 3) := by decide +kernel
theorem dX4_grindsMoreThan_59 : decode cX4_grindsMoreThan 59 = .ok (.getfield 169, 3) := by decide +kernel
theorem dX4_grindsMoreThan_62 : decode cX4_grindsMoreThan 62 = .ok (.invokevirtual 150, 3) := by decide +kernel
theorem dX4_grindsMoreThan_65 : decode cX4_grindsMoreThan 65 = .ok (.isub, 1) := by decide +kernel
theorem dX4_grindsMoreThan_66 : decode cX4_grindsMoreThan 66 = .ok (.ireturn, 1) := by decide +kernel
theorem dX4_leavesMoreThan_0 : decode cX4_leavesMoreThan 0 = .ok (.aload_n 0, 1) := by decide +kernel
theorem dX4_leavesMoreThan_1 : decode cX4_leavesMoreThan 1 = .ok (.getfield 43, 3) := by decide +kernel
theorem dX4_leavesMoreThan_4 : decode cX4_leavesMoreThan 4 = .ok (.aload_n 0, 1) := by decide +kernel
theorem dX4_leavesMoreThan_5 : decode cX4_leavesMoreThan 5 = .ok (.getfield 21, 3) := by decide +kernel
theorem dX4_leavesMoreThan_8 : decode cX4_leavesMoreThan 8 = .ok (.invokevirtual 207, 3) := by decide +kernel
theorem dX4_leavesMoreThan_11 : decode cX4_leavesMoreThan 11 = .ok (.aload_n 0, 1) := by decide +kernel
theorem dX4_leavesMoreThan_12 : decode cX4_leavesMoreThan 12 = .ok (.getfield 43, 3) := by decide +kernel
theorem dX4_leavesMoreThan_15 : decode cX4_leavesMoreThan 15 = .ok (.getfield 141, 3) := by decide +kernel
theorem dX4_leavesMoreThan_18 : decode cX4_leavesMoreThan 18 = .ok (.iload_n 1, 1) := by decide +kernel
theorem dX4_leavesMoreThan_19 : decode cX4_leavesMoreThan 19 = .ok (.iload_n 2, 1) := by decide +kernel
theorem dX4_leavesMoreThan_20 : decode cX4_leavesMoreThan 20 = .ok (.iastore, 1) := by decide +kernel
theorem dX4_leavesMoreThan_21 : decode cX4_leavesMoreThan 21 = .ok (.aload_n 0, 1) := by decide +kernel
theorem dX4_leavesMoreThan_22 : decode cX4_leavesMoreThan 22 = .ok (.getfield 21, 3) := by decide +kernel
theorem dX4_leavesMoreThan_25 : decode cX4_leavesMoreThan 25 = .ok (.iload_n 1, 1) := by decide +kernel
theorem dX4_leavesMoreThan_26 : decode cX4_leavesMoreThan 26 = .ok (.invokevirtual 292, 3) := by decide +kernel
theorem dX4_leavesMoreThan_29 : decode cX4_leavesMoreThan 29 = .ok (.aload_n 0, 1) := by decide +kernel
theorem dX4_leavesMoreThan_30 : decode cX4_leavesMoreThan 30 = .ok (.getfield 43, 3) := by decide +kernel
theorem dX4_leavesMoreThan_33 : decode cX4_leavesMoreThan 33 = .ok (.iload_n 1, 1) := by decide +kernel
theorem dX4_leavesMoreThan_34 : decode cX4_leavesMoreThan 34 = .ok (.invokevirtual 292, 3) := by decide +kernel
theorem dX4_leavesMoreThan_37 : decode cX4_leavesMoreThan 37 = .ok (.isub, 1) := by decide +kernel
theorem dX4_leavesMoreThan_38 : decode cX4_leavesMoreThan 38 = .ok (.ireturn, 1) := by decide +kernel
theorem dX4_toldOfDay_0 : decode cX4_toldOfDay 0 = .ok (.iload_n 2, 1) := by decide +kernel
theorem dX4_toldOfDay_1 : decode cX4_toldOfDay 1 = .ok (.tableswitch 96 0 4 #[35, 45, 55, 64, 87], 35) := by decide +kernel
theorem dX4_toldOfDay_36 : decode cX4_toldOfDay 36 = .ok (.aload_n 0, 1) := by decide +kernel
theorem dX4_toldOfDay_37 : decode cX4_toldOfDay 37 = .ok (.getfield 21, 3) := by decide +kernel
theorem dX4_toldOfDay_40 : decode cX4_toldOfDay 40 = .ok (.getfield 141, 3) := by decide +kernel
theorem dX4_toldOfDay_43 : decode cX4_toldOfDay 43 = .ok (.iload_n 1, 1) := by decide +kernel
theorem dX4_toldOfDay_44 : decode cX4_toldOfDay 44 = .ok (.iaload, 1) := by decide +kernel
theorem dX4_toldOfDay_45 : decode cX4_toldOfDay 45 = .ok (.ireturn, 1) := by decide +kernel
theorem dX4_toldOfDay_46 : decode cX4_toldOfDay 46 = .ok (.aload_n 0, 1) := by decide +kernel
theorem dX4_toldOfDay_47 : decode cX4_toldOfDay 47 = .ok (.getfield 21, 3) := by decide +kernel
theorem dX4_toldOfDay_50 : decode cX4_toldOfDay 50 = .ok (.getfield 221, 3) := by decide +kernel
theorem dX4_toldOfDay_53 : decode cX4_toldOfDay 53 = .ok (.iload_n 1, 1) := by decide +kernel
theorem dX4_toldOfDay_54 : decode cX4_toldOfDay 54 = .ok (.iaload, 1) := by decide +kernel
theorem dX4_toldOfDay_55 : decode cX4_toldOfDay 55 = .ok (.ireturn, 1) := by decide +kernel
theorem dX4_toldOfDay_56 : decode cX4_toldOfDay 56 = .ok (.aload_n 0, 1) := by decide +kernel
theorem dX4_toldOfDay_57 : decode cX4_toldOfDay 57 = .ok (.getfield 21, 3) := by decide +kernel
theorem dX4_toldOfDay_60 : decode cX4_toldOfDay 60 = .ok (.iload_n 1, 1) := by decide +kernel
theorem dX4_toldOfDay_61 : decode cX4_toldOfDay 61 = .ok (.invokevirtual 295, 3) := by decide +kernel
theorem dX4_toldOfDay_64 : decode cX4_toldOfDay 64 = .ok (.ireturn, 1) := by decide +kernel
theorem dX4_toldOfDay_65 : decode cX4_toldOfDay 65 = .ok (.aload_n 0, 1) := by decide +kernel
theorem dX4_toldOfDay_66 : decode cX4_toldOfDay 66 = .ok (.getfield 21, 3) := by decide +kernel
theorem dX4_toldOfDay_69 : decode cX4_toldOfDay 69 = .ok (.iload_n 1, 1) := by decide +kernel
theorem dX4_toldOfDay_70 : decode cX4_toldOfDay 70 = .ok (.aload_n 0, 1) := by decide +kernel
theorem dX4_toldOfDay_71 : decode cX4_toldOfDay 71 = .ok (.getfield 28, 3) := by decide +kernel
theorem dX4_toldOfDay_74 : decode cX4_toldOfDay 74 = .ok (.getfield 166, 3) := by decide +kernel
theorem dX4_toldOfDay_77 : decode cX4_toldOfDay 77 = .ok (.aload_n 0, 1) := by decide +kernel
theorem dX4_toldOfDay_78 : decode cX4_toldOfDay 78 = .ok (.getfield 28, 3) := by decide +kernel
theorem dX4_toldOfDay_81 : decode cX4_toldOfDay 81 = .ok (.getfield 169, 3) := by decide +kernel
theorem dX4_toldOfDay_84 : decode cX4_toldOfDay 84 = .ok (.invokevirtual 150, 3) := by decide +kernel
theorem dX4_toldOfDay_87 : decode cX4_toldOfDay 87 = .ok (.ireturn, 1) := by decide +kernel
theorem dX4_toldOfDay_88 : decode cX4_toldOfDay 88 = .ok (.aload_n 0, 1) := by decide +kernel
theorem dX4_toldOfDay_89 : decode cX4_toldOfDay 89 = .ok (.getfield 21, 3) := by decide +kernel
theorem dX4_toldOfDay_92 : decode cX4_toldOfDay 92 = .ok (.iload_n 1, 1) := by decide +kernel
theorem dX4_toldOfDay_93 : decode cX4_toldOfDay 93 = .ok (.invokevirtual 292, 3) := by decide +kernel
theorem dX4_toldOfDay_96 : decode cX4_toldOfDay 96 = .ok (.ireturn, 1) := by decide +kernel
theorem dX4_toldOfDay_97 : decode cX4_toldOfDay 97 = .ok (.aload_n 0, 1) := by decide +kernel
theorem dX4_toldOfDay_98 : decode cX4_toldOfDay 98 = .ok (.getfield 21, 3) := by decide +kernel
theorem dX4_toldOfDay_101 : decode cX4_toldOfDay 101 = .ok (.iload_n 1, 1) := by decide +kernel
theorem dX4_toldOfDay_102 : decode cX4_toldOfDay 102 = .ok (.invokevirtual 172, 3) := by decide +kernel
theorem dX4_toldOfDay_105 : decode cX4_toldOfDay 105 = .ok (.ifCond .eq 7, 3) := by decide +kernel
theorem dX4_toldOfDay_108 : decode cX4_toldOfDay 108 = .ok (.iconst 1, 1) := by decide +kernel
theorem dX4_toldOfDay_109 : decode cX4_toldOfDay 109 = .ok (.goto 4, 3) := by decide +kernel
theorem dX4_toldOfDay_112 : decode cX4_toldOfDay 112 = .ok (.iconst 0, 1) := by decide +kernel
theorem dX4_toldOfDay_113 : decode cX4_toldOfDay 113 = .ok (.ireturn, 1) := by decide +kernel
theorem dX4_doDeed_0 : decode cX4_doDeed 0 = .ok (.aload_n 0, 1) := by decide +kernel
theorem dX4_doDeed_1 : decode cX4_doDeed 1 = .ok (.getfield 35, 3) := by decide +kernel
theorem dX4_doDeed_4 : decode cX4_doDeed 4 = .ok (.iload_n 1, 1) := by decide +kernel
theorem dX4_doDeed_5 : decode cX4_doDeed 5 = .ok (.iload_n 2, 1) := by decide +kernel
theorem dX4_doDeed_6 : decode cX4_doDeed 6 = .ok (.invokevirtual 298, 3) := by decide +kernel
theorem dX4_doDeed_9 : decode cX4_doDeed 9 = .ok (.aload_n 0, 1) := by decide +kernel
theorem dX4_doDeed_10 : decode cX4_doDeed 10 = .ok (.iload_n 1, 1) := by decide +kernel
theorem dX4_doDeed_11 : decode cX4_doDeed 11 = .ok (.iload_n 2, 1) := by decide +kernel
theorem dX4_doDeed_12 : decode cX4_doDeed 12 = .ok (.invokevirtual 301, 3) := by decide +kernel
theorem dX4_doDeed_15 : decode cX4_doDeed 15 = .ok (.ireturn, 1) := by decide +kernel
theorem dX4_apply_0 : decode cX4_apply 0 = .ok (.iload_n 1, 1) := by decide +kernel
theorem dX4_apply_1 : decode cX4_apply 1 = .ok (.tableswitch 82 1 3 #[27, 45, 63], 27) := by decide +kernel
theorem dX4_apply_28 : decode cX4_apply 28 = .ok (.aload_n 0, 1) := by decide +kernel
theorem dX4_apply_29 : decode cX4_apply 29 = .ok (.getfield 28, 3) := by decide +kernel
theorem dX4_apply_32 : decode cX4_apply 32 = .ok (.getfield 169, 3) := by decide +kernel
theorem dX4_apply_35 : decode cX4_apply 35 = .ok (.istore_n 3, 1) := by decide +kernel
theorem dX4_apply_36 : decode cX4_apply 36 = .ok (.aload_n 0, 1) := by decide +kernel
theorem dX4_apply_37 : decode cX4_apply 37 = .ok (.getfield 28, 3) := by decide +kernel
theorem dX4_apply_40 : decode cX4_apply 40 = .ok (.iconst 0, 1) := by decide +kernel
theorem dX4_apply_41 : decode cX4_apply 41 = .ok (.putfield 169, 3) := by decide +kernel
theorem dX4_apply_44 : decode cX4_apply 44 = .ok (.iload_n 3, 1) := by decide +kernel
theorem dX4_apply_45 : decode cX4_apply 45 = .ok (.ireturn, 1) := by decide +kernel
theorem dX4_apply_46 : decode cX4_apply 46 = .ok (.aload_n 0, 1) := by decide +kernel
theorem dX4_apply_47 : decode cX4_apply 47 = .ok (.getfield 28, 3) := by decide +kernel
theorem dX4_apply_50 : decode cX4_apply 50 = .ok (.getfield 166, 3) := by decide +kernel
theorem dX4_apply_53 : decode cX4_apply 53 = .ok (.istore_n 3, 1) := by decide +kernel
theorem dX4_apply_54 : decode cX4_apply 54 = .ok (.aload_n 0, 1) := by decide +kernel
theorem dX4_apply_55 : decode cX4_apply 55 = .ok (.getfield 28, 3) := by decide +kernel
theorem dX4_apply_58 : decode cX4_apply 58 = .ok (.iload_n 2, 1) := by decide +kernel
theorem dX4_apply_59 : decode cX4_apply 59 = .ok (.putfield 166, 3) := by decide +kernel
theorem dX4_apply_62 : decode cX4_apply 62 = .ok (.iload_n 3, 1) := by decide +kernel
theorem dX4_apply_63 : decode cX4_apply 63 = .ok (.ireturn, 1) := by decide +kernel
theorem dX4_apply_64 : decode cX4_apply 64 = .ok (.aload_n 0, 1) := by decide +kernel
theorem dX4_apply_65 : decode cX4_apply 65 = .ok (.getfield 21, 3) := by decide +kernel
theorem dX4_apply_68 : decode cX4_apply 68 = .ok (.iload_n 2, 1) := by decide +kernel
theorem dX4_apply_69 : decode cX4_apply 69 = .ok (.invokevirtual 295, 3) := by decide +kernel
theorem dX4_apply_72 : decode cX4_apply 72 = .ok (.istore_n 3, 1) := by decide +kernel
theorem dX4_apply_73 : decode cX4_apply 73 = .ok (.aload_n 0, 1) := by decide +kernel
theorem dX4_apply_74 : decode cX4_apply 74 = .ok (.getfield 21, 3) := by decide +kernel
theorem dX4_apply_77 : decode cX4_apply 77 = .ok (.iload_n 2, 1) := by decide +kernel
theorem dX4_apply_78 : decode cX4_apply 78 = .ok (.invokevirtual 210, 3) := by decide +kernel
theorem dX4_apply_81 : decode cX4_apply 81 = .ok (.iload_n 3, 1) := by decide +kernel
theorem dX4_apply_82 : decode cX4_apply 82 = .ok (.ireturn, 1) := by decide +kernel
theorem dX4_apply_83 : decode cX4_apply 83 = .ok (.aload_n 0, 1) := by decide +kernel
theorem dX4_apply_84 : decode cX4_apply 84 = .ok (.getfield 28, 3) := by decide +kernel
theorem dX4_apply_87 : decode cX4_apply 87 = .ok (.aload_n 0, 1) := by decide +kernel
theorem dX4_apply_88 : decode cX4_apply 88 = .ok (.getfield 21, 3) := by decide +kernel
theorem dX4_apply_91 : decode cX4_apply 91 = .ok (.invokevirtual 189, 3) := by decide +kernel
theorem dX4_apply_94 : decode cX4_apply 94 = .ok (.ireturn, 1) := by decide +kernel
theorem dX4_doAgain_0 : decode cX4_doAgain 0 = .ok (.aload_n 0, 1) := by decide +kernel
theorem dX4_doAgain_1 : decode cX4_doAgain 1 = .ok (.getfield 28, 3) := by decide +kernel
theorem dX4_doAgain_4 : decode cX4_doAgain 4 = .ok (.invokevirtual 304, 3) := by decide +kernel
theorem dX4_doAgain_7 : decode cX4_doAgain 7 = .ok (.aload_n 0, 1) := by decide +kernel
theorem dX4_doAgain_8 : decode cX4_doAgain 8 = .ok (.getfield 21, 3) := by decide +kernel
theorem dX4_doAgain_11 : decode cX4_doAgain 11 = .ok (.iconst 0, 1) := by decide +kernel
theorem dX4_doAgain_12 : decode cX4_doAgain 12 = .ok (.putfield 256, 3) := by decide +kernel
theorem dX4_doAgain_15 : decode cX4_doAgain 15 = .ok (.iconst 0, 1) := by decide +kernel
theorem dX4_doAgain_16 : decode cX4_doAgain 16 = .ok (.istore_n 1, 1) := by decide +kernel
theorem dX4_doAgain_17 : decode cX4_doAgain 17 = .ok (.iload_n 1, 1) := by decide +kernel
theorem dX4_doAgain_18 : decode cX4_doAgain 18 = .ok (.aload_n 0, 1) := by decide +kernel
theorem dX4_doAgain_19 : decode cX4_doAgain 19 = .ok (.getfield 35, 3) := by decide +kernel
theorem dX4_doAgain_22 : decode cX4_doAgain 22 = .ok (.getfield 72, 3) := by decide +kernel
theorem dX4_doAgain_25 : decode cX4_doAgain 25 = .ok (.if_icmp .ge 32, 3) := by decide +kernel
theorem dX4_doAgain_28 : decode cX4_doAgain 28 = .ok (.aload_n 0, 1) := by decide +kernel
theorem dX4_doAgain_29 : decode cX4_doAgain 29 = .ok (.aload_n 0, 1) := by decide +kernel
theorem dX4_doAgain_30 : decode cX4_doAgain 30 = .ok (.getfield 35, 3) := by decide +kernel
theorem dX4_doAgain_33 : decode cX4_doAgain 33 = .ok (.getfield 307, 3) := by decide +kernel
theorem dX4_doAgain_36 : decode cX4_doAgain 36 = .ok (.iload_n 1, 1) := by decide +kernel
theorem dX4_doAgain_37 : decode cX4_doAgain 37 = .ok (.iaload, 1) := by decide +kernel
theorem dX4_doAgain_38 : decode cX4_doAgain 38 = .ok (.aload_n 0, 1) := by decide +kernel
theorem dX4_doAgain_39 : decode cX4_doAgain 39 = .ok (.getfield 35, 3) := by decide +kernel
theorem dX4_doAgain_42 : decode cX4_doAgain 42 = .ok (.getfield 310, 3) := by decide +kernel
theorem dX4_doAgain_45 : decode cX4_doAgain 45 = .ok (.iload_n 1, 1) := by decide +kernel
theorem dX4_doAgain_46 : decode cX4_doAgain 46 = .ok (.iaload, 1) := by decide +kernel
theorem dX4_doAgain_47 : decode cX4_doAgain 47 = .ok (.invokevirtual 301, 3) := by decide +kernel
theorem dX4_doAgain_50 : decode cX4_doAgain 50 = .ok (.pop, 1) := by decide +kernel
theorem dX4_doAgain_51 : decode cX4_doAgain 51 = .ok (.iinc 1 1, 3) := by decide +kernel
theorem dX4_doAgain_54 : decode cX4_doAgain 54 = .ok (.goto (-37), 3) := by decide +kernel
theorem dX4_doAgain_57 : decode cX4_doAgain 57 = .ok (.return_, 1) := by decide +kernel
theorem dX4_doByLot_0 : decode cX4_doByLot 0 = .ok (.iload_n 1, 1) := by decide +kernel
theorem dX4_doByLot_1 : decode cX4_doByLot 1 = .ok (.bipush 6, 2) := by decide +kernel
theorem dX4_doByLot_3 : decode cX4_doByLot 3 = .ok (.irem, 1) := by decide +kernel
theorem dX4_doByLot_4 : decode cX4_doByLot 4 = .ok (.ifCond .ne 13, 3) := by decide +kernel
theorem dX4_doByLot_7 : decode cX4_doByLot 7 = .ok (.aload_n 0, 1) := by decide +kernel
theorem dX4_doByLot_8 : decode cX4_doByLot 8 = .ok (.iconst 1, 1) := by decide +kernel
theorem dX4_doByLot_9 : decode cX4_doByLot 9 = .ok (.iconst 0, 1) := by decide +kernel
theorem dX4_doByLot_10 : decode cX4_doByLot 10 = .ok (.invokevirtual 160, 3) := by decide +kernel
theorem dX4_doByLot_13 : decode cX4_doByLot 13 = .ok (.pop, 1) := by decide +kernel
theorem dX4_doByLot_14 : decode cX4_doByLot 14 = .ok (.goto 33, 3) := by decide +kernel
theorem dX4_doByLot_17 : decode cX4_doByLot 17 = .ok (.iload_n 1, 1) := by decide +kernel
theorem dX4_doByLot_18 : decode cX4_doByLot 18 = .ok (.bipush 6, 2) := by decide +kernel
theorem dX4_doByLot_20 : decode cX4_doByLot 20 = .ok (.irem, 1) := by decide +kernel
theorem dX4_doByLot_21 : decode cX4_doByLot 21 = .ok (.iconst 1, 1) := by decide +kernel
theorem dX4_doByLot_22 : decode cX4_doByLot 22 = .ok (.if_icmp .ne 18, 3) := by decide +kernel
theorem dX4_doByLot_25 : decode cX4_doByLot 25 = .ok (.aload_n 0, 1) := by decide +kernel
theorem dX4_doByLot_26 : decode cX4_doByLot 26 = .ok (.iconst 2, 1) := by decide +kernel
theorem dX4_doByLot_27 : decode cX4_doByLot 27 = .ok (.iload_n 1, 1) := by decide +kernel
theorem dX4_doByLot_28 : decode cX4_doByLot 28 = .ok (.bipush 8, 2) := by decide +kernel
theorem dX4_doByLot_30 : decode cX4_doByLot 30 = .ok (.idiv, 1) := by decide +kernel
theorem dX4_doByLot_31 : decode cX4_doByLot 31 = .ok (.iconst 5, 1) := by decide +kernel
theorem dX4_doByLot_32 : decode cX4_doByLot 32 = .ok (.irem, 1) := by decide +kernel
theorem dX4_doByLot_33 : decode cX4_doByLot 33 = .ok (.invokevirtual 160, 3) := by decide +kernel
theorem dX4_doByLot_36 : decode cX4_doByLot 36 = .ok (.pop, 1) := by decide +kernel
theorem dX4_doByLot_37 : decode cX4_doByLot 37 = .ok (.goto 10, 3) := by decide +kernel
theorem dX4_doByLot_40 : decode cX4_doByLot 40 = .ok (.aload_n 0, 1) := by decide +kernel
theorem dX4_doByLot_41 : decode cX4_doByLot 41 = .ok (.iconst 0, 1) := by decide +kernel
theorem dX4_doByLot_42 : decode cX4_doByLot 42 = .ok (.iconst 0, 1) := by decide +kernel
theorem dX4_doByLot_43 : decode cX4_doByLot 43 = .ok (.invokevirtual 160, 3) := by decide +kernel
theorem dX4_doByLot_46 : decode cX4_doByLot 46 = .ok (.pop, 1) := by decide +kernel
theorem dX4_doByLot_47 : decode cX4_doByLot 47 = .ok (.return_, 1) := by decide +kernel
theorem dX4_startTrial_0 : decode cX4_startTrial 0 = .ok (.aload_n 0, 1) := by decide +kernel
theorem dX4_startTrial_1 : decode cX4_startTrial 1 = .ok (.getfield 46, 3) := by decide +kernel
theorem dX4_startTrial_4 : decode cX4_startTrial 4 = .ok (.aload_n 0, 1) := by decide +kernel
theorem dX4_startTrial_5 : decode cX4_startTrial 5 = .ok (.getfield 28, 3) := by decide +kernel
theorem dX4_startTrial_8 : decode cX4_startTrial 8 = .ok (.invokevirtual 313, 3) := by decide +kernel
theorem dX4_startTrial_11 : decode cX4_startTrial 11 = .ok (.aload_n 0, 1) := by decide +kernel
theorem dX4_startTrial_12 : decode cX4_startTrial 12 = .ok (.getfield 46, 3) := by decide +kernel
theorem dX4_startTrial_15 : decode cX4_startTrial 15 = .ok (.iconst 0, 1) := by decide +kernel
theorem dX4_startTrial_16 : decode cX4_startTrial 16 = .ok (.putfield 196, 3) := by decide +kernel
theorem dX4_startTrial_19 : decode cX4_startTrial 19 = .ok (.return_, 1) := by decide +kernel
theorem dX4_groundIn_0 : decode cX4_groundIn 0 = .ok (.iconst 0, 1) := by decide +kernel
theorem dX4_groundIn_1 : decode cX4_groundIn 1 = .ok (.istore_n 3, 1) := by decide +kernel
theorem dX4_groundIn_2 : decode cX4_groundIn 2 = .ok (.iload_n 3, 1) := by decide +kernel
theorem dX4_groundIn_3 : decode cX4_groundIn 3 = .ok (.iload_n 1, 1) := by decide +kernel
theorem dX4_groundIn_4 : decode cX4_groundIn 4 = .ok (.if_icmp .ge 18, 3) := by decide +kernel
theorem dX4_groundIn_7 : decode cX4_groundIn 7 = .ok (.aload_n 0, 1) := by decide +kernel
theorem dX4_groundIn_8 : decode cX4_groundIn 8 = .ok (.getfield 46, 3) := by decide +kernel
theorem dX4_groundIn_11 : decode cX4_groundIn 11 = .ok (.aload_n 2, 1) := by decide +kernel
theorem dX4_groundIn_12 : decode cX4_groundIn 12 = .ok (.invokevirtual 189, 3) := by decide +kernel
theorem dX4_groundIn_15 : decode cX4_groundIn 15 = .ok (.pop, 1) := by decide +kernel
theorem dX4_groundIn_16 : decode cX4_groundIn 16 = .ok (.iinc 3 1, 3) := by decide +kernel
theorem dX4_groundIn_19 : decode cX4_groundIn 19 = .ok (.goto (-17), 3) := by decide +kernel
theorem dX4_groundIn_22 : decode cX4_groundIn 22 = .ok (.aload_n 0, 1) := by decide +kernel
theorem dX4_groundIn_23 : decode cX4_groundIn 23 = .ok (.getfield 46, 3) := by decide +kernel
theorem dX4_groundIn_26 : decode cX4_groundIn 26 = .ok (.getfield 196, 3) := by decide +kernel
theorem dX4_groundIn_29 : decode cX4_groundIn 29 = .ok (.ireturn, 1) := by decide +kernel
theorem dX4_groundRaking_0 : decode cX4_groundRaking 0 = .ok (.aload_n 0, 1) := by decide +kernel
theorem dX4_groundRaking_1 : decode cX4_groundRaking 1 = .ok (.invokevirtual 182, 3) := by decide +kernel
theorem dX4_groundRaking_4 : decode cX4_groundRaking 4 = .ok (.iconst 0, 1) := by decide +kernel
theorem dX4_groundRaking_5 : decode cX4_groundRaking 5 = .ok (.istore_n 3, 1) := by decide +kernel
theorem dX4_groundRaking_6 : decode cX4_groundRaking 6 = .ok (.iload_n 3, 1) := by decide +kernel
theorem dX4_groundRaking_7 : decode cX4_groundRaking 7 = .ok (.iload_n 1, 1) := by decide +kernel
theorem dX4_groundRaking_8 : decode cX4_groundRaking 8 = .ok (.if_icmp .ge 38, 3) := by decide +kernel
theorem dX4_groundRaking_11 : decode cX4_groundRaking 11 = .ok (.iload_n 2, 1) := by decide +kernel
theorem dX4_groundRaking_12 : decode cX4_groundRaking 12 = .ok (.iload_n 3, 1) := by decide +kernel
theorem dX4_groundRaking_13 : decode cX4_groundRaking 13 = .ok (.ishr, 1) := by decide +kernel
theorem dX4_groundRaking_14 : decode cX4_groundRaking 14 = .ok (.iconst 1, 1) := by decide +kernel
theorem dX4_groundRaking_15 : decode cX4_groundRaking 15 = .ok (.iand, 1) := by decide +kernel
theorem dX4_groundRaking_16 : decode cX4_groundRaking 16 = .ok (.iconst 1, 1) := by decide +kernel
theorem dX4_groundRaking_17 : decode cX4_groundRaking 17 = .ok (.if_icmp .ne 11, 3) := by decide +kernel
theorem dX4_groundRaking_20 : decode cX4_groundRaking 20 = .ok (.aload_n 0, 1) := by decide +kernel
theorem dX4_groundRaking_21 : decode cX4_groundRaking 21 = .ok (.getfield 46, 3) := by decide +kernel
theorem dX4_groundRaking_24 : decode cX4_groundRaking 24 = .ok (.iconst 0, 1) := by decide +kernel
theorem dX4_groundRaking_25 : decode cX4_groundRaking 25 = .ok (.putfield 169, 3) := by decide +kernel
theorem dX4_groundRaking_28 : decode cX4_groundRaking 28 = .ok (.aload_n 0, 1) := by decide +kernel
theorem dX4_groundRaking_29 : decode cX4_groundRaking 29 = .ok (.getfield 46, 3) := by decide +kernel
theorem dX4_groundRaking_32 : decode cX4_groundRaking 32 = .ok (.aload_n 0, 1) := by decide +kernel
theorem dX4_groundRaking_33 : decode cX4_groundRaking 33 = .ok (.getfield 21, 3) := by decide +kernel
theorem dX4_groundRaking_36 : decode cX4_groundRaking 36 = .ok (.invokevirtual 189, 3) := by decide +kernel
theorem dX4_groundRaking_39 : decode cX4_groundRaking 39 = .ok (.pop, 1) := by decide +kernel
theorem dX4_groundRaking_40 : decode cX4_groundRaking 40 = .ok (.iinc 3 1, 3) := by decide +kernel
theorem dX4_groundRaking_43 : decode cX4_groundRaking 43 = .ok (.goto (-37), 3) := by decide +kernel
theorem dX4_groundRaking_46 : decode cX4_groundRaking 46 = .ok (.aload_n 0, 1) := by decide +kernel
theorem dX4_groundRaking_47 : decode cX4_groundRaking 47 = .ok (.getfield 46, 3) := by decide +kernel
theorem dX4_groundRaking_50 : decode cX4_groundRaking 50 = .ok (.getfield 196, 3) := by decide +kernel
theorem dX4_groundRaking_53 : decode cX4_groundRaking 53 = .ok (.ireturn, 1) := by decide +kernel
theorem dX4_groundWithDry_0 : decode cX4_groundWithDry 0 = .ok (.aload_n 0, 1) := by decide +kernel
theorem dX4_groundWithDry_1 : decode cX4_groundWithDry 1 = .ok (.invokevirtual 182, 3) := by decide +kernel
theorem dX4_groundWithDry_4 : decode cX4_groundWithDry 4 = .ok (.iconst 0, 1) := by decide +kernel
theorem dX4_groundWithDry_5 : decode cX4_groundWithDry 5 = .ok (.istore_n 2, 1) := by decide +kernel
theorem dX4_groundWithDry_6 : decode cX4_groundWithDry 6 = .ok (.iload_n 2, 1) := by decide +kernel
theorem dX4_groundWithDry_7 : decode cX4_groundWithDry 7 = .ok (.bipush 6, 2) := by decide +kernel
theorem dX4_groundWithDry_9 : decode cX4_groundWithDry 9 = .ok (.if_icmp .ge 54, 3) := by decide +kernel
theorem dX4_groundWithDry_12 : decode cX4_groundWithDry 12 = .ok (.iload_n 1, 1) := by decide +kernel
theorem dX4_groundWithDry_13 : decode cX4_groundWithDry 13 = .ok (.iload_n 2, 1) := by decide +kernel
theorem dX4_groundWithDry_14 : decode cX4_groundWithDry 14 = .ok (.ishr, 1) := by decide +kernel
theorem dX4_groundWithDry_15 : decode cX4_groundWithDry 15 = .ok (.iconst 1, 1) := by decide +kernel
theorem dX4_groundWithDry_16 : decode cX4_groundWithDry 16 = .ok (.iand, 1) := by decide +kernel
theorem dX4_groundWithDry_17 : decode cX4_groundWithDry 17 = .ok (.iconst 1, 1) := by decide +kernel
theorem dX4_groundWithDry_18 : decode cX4_groundWithDry 18 = .ok (.if_icmp .ne 27, 3) := by decide +kernel
theorem dX4_groundWithDry_21 : decode cX4_groundWithDry 21 = .ok (.aload_n 0, 1) := by decide +kernel
theorem dX4_groundWithDry_22 : decode cX4_groundWithDry 22 = .ok (.getfield 46, 3) := by decide +kernel
theorem dX4_groundWithDry_25 : decode cX4_groundWithDry 25 = .ok (.invokevirtual 316, 3) := by decide +kernel
theorem dX4_groundWithDry_28 : decode cX4_groundWithDry 28 = .ok (.aload_n 0, 1) := by decide +kernel
theorem dX4_groundWithDry_29 : decode cX4_groundWithDry 29 = .ok (.getfield 46, 3) := by decide +kernel
theorem dX4_groundWithDry_32 : decode cX4_groundWithDry 32 = .ok (.aload_n 0, 1) := by decide +kernel
theorem dX4_groundWithDry_33 : decode cX4_groundWithDry 33 = .ok (.getfield 21, 3) := by decide +kernel
theorem dX4_groundWithDry_36 : decode cX4_groundWithDry 36 = .ok (.getfield 129, 3) := by decide +kernel
theorem dX4_groundWithDry_39 : decode cX4_groundWithDry 39 = .ok (.invokevirtual 319, 3) := by decide +kernel
theorem dX4_groundWithDry_42 : decode cX4_groundWithDry 42 = .ok (.goto 15, 3) := by decide +kernel
theorem dX4_groundWithDry_45 : decode cX4_groundWithDry 45 = .ok (.aload_n 0, 1) := by decide +kernel
theorem dX4_groundWithDry_46 : decode cX4_groundWithDry 46 = .ok (.getfield 46, 3) := by decide +kernel
theorem dX4_groundWithDry_49 : decode cX4_groundWithDry 49 = .ok (.aload_n 0, 1) := by decide +kernel
theorem dX4_groundWithDry_50 : decode cX4_groundWithDry 50 = .ok (.getfield 21, 3) := by decide +kernel
theorem dX4_groundWithDry_53 : decode cX4_groundWithDry 53 = .ok (.invokevirtual 189, 3) := by decide +kernel
theorem dX4_groundWithDry_56 : decode cX4_groundWithDry 56 = .ok (.pop, 1) := by decide +kernel
theorem dX4_groundWithDry_57 : decode cX4_groundWithDry 57 = .ok (.iinc 2 1, 3) := by decide +kernel
theorem dX4_groundWithDry_60 : decode cX4_groundWithDry 60 = .ok (.goto (-54), 3) := by decide +kernel
theorem dX4_groundWithDry_63 : decode cX4_groundWithDry 63 = .ok (.aload_n 0, 1) := by decide +kernel
theorem dX4_groundWithDry_64 : decode cX4_groundWithDry 64 = .ok (.getfield 46, 3) := by decide +kernel
theorem dX4_groundWithDry_67 : decode cX4_groundWithDry 67 = .ok (.getfield 196, 3) := by decide +kernel
theorem dX4_groundWithDry_70 : decode cX4_groundWithDry 70 = .ok (.ireturn, 1) := by decide +kernel
theorem dX4_grindsSo_0 : decode cX4_grindsSo 0 = .ok (.aload_n 0, 1) := by decide +kernel
theorem dX4_grindsSo_1 : decode cX4_grindsSo 1 = .ok (.invokevirtual 182, 3) := by decide +kernel
theorem dX4_grindsSo_4 : decode cX4_grindsSo 4 = .ok (.aload_n 0, 1) := by decide +kernel
theorem dX4_grindsSo_5 : decode cX4_grindsSo 5 = .ok (.getfield 46, 3) := by decide +kernel
theorem dX4_grindsSo_8 : decode cX4_grindsSo 8 = .ok (.iload_n 3, 1) := by decide +kernel
theorem dX4_grindsSo_9 : decode cX4_grindsSo 9 = .ok (.putfield 163, 3) := by decide +kernel
theorem dX4_grindsSo_12 : decode cX4_grindsSo 12 = .ok (.iconst 0, 1) := by decide +kernel
theorem dX4_grindsSo_13 : decode cX4_grindsSo 13 = .ok (.istore 4, 2) := by decide +kernel
theorem dX4_grindsSo_15 : decode cX4_grindsSo 15 = .ok (.iload 4, 2) := by decide +kernel
theorem dX4_grindsSo_17 : decode cX4_grindsSo 17 = .ok (.aload_n 1, 1) := by decide +kernel
theorem dX4_grindsSo_18 : decode cX4_grindsSo 18 = .ok (.getfield 98, 3) := by decide +kernel
theorem dX4_grindsSo_21 : decode cX4_grindsSo 21 = .ok (.if_icmp .ge 29, 3) := by decide +kernel
theorem dX4_grindsSo_24 : decode cX4_grindsSo 24 = .ok (.aload_n 0, 1) := by decide +kernel
theorem dX4_grindsSo_25 : decode cX4_grindsSo 25 = .ok (.getfield 46, 3) := by decide +kernel
theorem dX4_grindsSo_28 : decode cX4_grindsSo 28 = .ok (.aload_n 2, 1) := by decide +kernel
theorem dX4_grindsSo_29 : decode cX4_grindsSo 29 = .ok (.invokevirtual 189, 3) := by decide +kernel
theorem dX4_grindsSo_32 : decode cX4_grindsSo 32 = .ok (.aload_n 1, 1) := by decide +kernel
theorem dX4_grindsSo_33 : decode cX4_grindsSo 33 = .ok (.getfield 91, 3) := by decide +kernel
theorem dX4_grindsSo_36 : decode cX4_grindsSo 36 = .ok (.iload 4, 2) := by decide +kernel
theorem dX4_grindsSo_38 : decode cX4_grindsSo 38 = .ok (.iaload, 1) := by decide +kernel
theorem dX4_grindsSo_39 : decode cX4_grindsSo 39 = .ok (.if_icmp .eq 5, 3) := by decide +kernel
theorem dX4_grindsSo_42 : decode cX4_grindsSo 42 = .ok (.iconst 0, 1) := by decide +kernel
theorem dX4_grindsSo_43 : decode cX4_grindsSo 43 = .ok (.ireturn, 1) := by decide +kernel
theorem dX4_grindsSo_44 : decode cX4_grindsSo 44 = .ok (.iinc 4 1, 3) := by decide +kernel
theorem dX4_grindsSo_47 : decode cX4_grindsSo 47 = .ok (.goto (-32), 3) := by decide +kernel
theorem dX4_grindsSo_50 : decode cX4_grindsSo 50 = .ok (.iconst 1, 1) := by decide +kernel
theorem dX4_grindsSo_51 : decode cX4_grindsSo 51 = .ok (.ireturn, 1) := by decide +kernel
theorem dX4_bestSetting_0 : decode cX4_bestSetting 0 = .ok (.iconst 0, 1) := by decide +kernel
theorem dX4_bestSetting_1 : decode cX4_bestSetting 1 = .ok (.istore_n 2, 1) := by decide +kernel
theorem dX4_bestSetting_2 : decode cX4_bestSetting 2 = .ok (.iconst (-1), 1) := by decide +kernel
theorem dX4_bestSetting_3 : decode cX4_bestSetting 3 = .ok (.istore_n 3, 1) := by decide +kernel
theorem dX4_bestSetting_4 : decode cX4_bestSetting 4 = .ok (.iconst 0, 1) := by decide +kernel
theorem dX4_bestSetting_5 : decode cX4_bestSetting 5 = .ok (.istore 4, 2) := by decide +kernel
theorem dX4_bestSetting_7 : decode cX4_bestSetting 7 = .ok (.iload 4, 2) := by decide +kernel
theorem dX4_bestSetting_9 : decode cX4_bestSetting 9 = .ok (.iconst 4, 1) := by decide +kernel
theorem dX4_bestSetting_10 : decode cX4_bestSetting 10 = .ok (.if_icmp .gt 34, 3) := by decide +kernel
theorem dX4_bestSetting_13 : decode cX4_bestSetting 13 = .ok (.aload_n 0, 1) := by decide +kernel
theorem dX4_bestSetting_14 : decode cX4_bestSetting 14 = .ok (.aload_n 0, 1) := by decide +kernel
theorem dX4_bestSetting_15 : decode cX4_bestSetting 15 = .ok (.getfield 46, 3) := by decide +kernel
theorem dX4_bestSetting_18 : decode cX4_bestSetting 18 = .ok (.iload 4, 2) := by decide +kernel
theorem dX4_bestSetting_20 : decode cX4_bestSetting 20 = .ok (.iload_n 1, 1) := by decide +kernel
theorem dX4_bestSetting_21 : decode cX4_bestSetting 21 = .ok (.invokevirtual 322, 3) := by decide +kernel
theorem dX4_bestSetting_24 : decode cX4_bestSetting 24 = .ok (.istore 5, 2) := by decide +kernel
theorem dX4_bestSetting_26 : decode cX4_bestSetting 26 = .ok (.iload 5, 2) := by decide +kernel
theorem dX4_bestSetting_28 : decode cX4_bestSetting 28 = .ok (.iload_n 3, 1) := by decide +kernel
theorem dX4_bestSetting_29 : decode cX4_bestSetting 29 = .ok (.if_icmp .le 9, 3) := by decide +kernel
theorem dX4_bestSetting_32 : decode cX4_bestSetting 32 = .ok (.iload 5, 2) := by decide +kernel
theorem dX4_bestSetting_34 : decode cX4_bestSetting 34 = .ok (.istore_n 3, 1) := by decide +kernel
theorem dX4_bestSetting_35 : decode cX4_bestSetting 35 = .ok (.iload 4, 2) := by decide +kernel
theorem dX4_bestSetting_37 : decode cX4_bestSetting 37 = .ok (.istore_n 2, 1) := by decide +kernel
theorem dX4_bestSetting_38 : decode cX4_bestSetting 38 = .ok (.iinc 4 1, 3) := by decide +kernel
theorem dX4_bestSetting_41 : decode cX4_bestSetting 41 = .ok (.goto (-34), 3) := by decide +kernel
theorem dX4_bestSetting_44 : decode cX4_bestSetting 44 = .ok (.iload_n 2, 1) := by decide +kernel
theorem dX4_bestSetting_45 : decode cX4_bestSetting 45 = .ok (.ireturn, 1) := by decide +kernel
theorem dX4_mostSetting_0 : decode cX4_mostSetting 0 = .ok (.iload_n 3, 1) := by decide +kernel
theorem dX4_mostSetting_1 : decode cX4_mostSetting 1 = .ok (.iconst 0, 1) := by decide +kernel
theorem dX4_mostSetting_2 : decode cX4_mostSetting 2 = .ok (.iconst 4, 1) := by decide +kernel
theorem dX4_mostSetting_3 : decode cX4_mostSetting 3 = .ok (.invokestatic 133, 3) := by decide +kernel
theorem dX4_mostSetting_6 : decode cX4_mostSetting 6 = .ok (.ifCond .ne 8, 3) := by decide +kernel
theorem dX4_mostSetting_9 : decode cX4_mostSetting 9 = .ok (.aload_n 1, 1) := by decide +kernel
theorem dX4_mostSetting_10 : decode cX4_mostSetting 10 = .ok (.getfield 196, 3) := by decide +kernel
theorem dX4_mostSetting_13 : decode cX4_mostSetting 13 = .ok (.ireturn, 1) := by decide +kernel
theorem dX4_mostSetting_14 : decode cX4_mostSetting 14 = .ok (.aload_n 0, 1) := by decide +kernel
theorem dX4_mostSetting_15 : decode cX4_mostSetting 15 = .ok (.getfield 49, 3) := by decide +kernel
theorem dX4_mostSetting_18 : decode cX4_mostSetting 18 = .ok (.iload_n 3, 1) := by decide +kernel
theorem dX4_mostSetting_19 : decode cX4_mostSetting 19 = .ok (.aaload, 1) := by decide +kernel
theorem dX4_mostSetting_20 : decode cX4_mostSetting 20 = .ok (.astore 4, 2) := by decide +kernel
theorem dX4_mostSetting_22 : decode cX4_mostSetting 22 = .ok (.aload 4, 2) := by decide +kernel
theorem dX4_mostSetting_24 : decode cX4_mostSetting 24 = .ok (.aload_n 1, 1) := by decide +kernel
theorem dX4_mostSetting_25 : decode cX4_mostSetting 25 = .ok (.invokevirtual 313, 3) := by decide +kernel
theorem dX4_mostSetting_28 : decode cX4_mostSetting 28 = .ok (.aload 4, 2) := by decide +kernel
theorem dX4_mostSetting_30 : decode cX4_mostSetting 30 = .ok (.iload_n 2, 1) := by decide +kernel
theorem dX4_mostSetting_31 : decode cX4_mostSetting 31 = .ok (.putfield 166, 3) := by decide +kernel
theorem dX4_mostSetting_34 : decode cX4_mostSetting 34 = .ok (.aload 4, 2) := by decide +kernel
theorem dX4_mostSetting_36 : decode cX4_mostSetting 36 = .ok (.aload_n 0, 1) := by decide +kernel
theorem dX4_mostSetting_37 : decode cX4_mostSetting 37 = .ok (.getfield 21, 3) := by decide +kernel
theorem dX4_mostSetting_40 : decode cX4_mostSetting 40 = .ok (.invokevirtual 189, 3) := by decide +kernel
theorem dX4_mostSetting_43 : decode cX4_mostSetting 43 = .ok (.pop, 1) := by decide +kernel
theorem dX4_mostSetting_44 : decode cX4_mostSetting 44 = .ok (.iload_n 3, 1) := by decide +kernel
theorem dX4_mostSetting_45 : decode cX4_mostSetting 45 = .ok (.ifCond .ne 9, 3) := by decide +kernel
theorem dX4_mostSetting_48 : decode cX4_mostSetting 48 = .ok (.aload 4, 2) := by decide +kernel
theorem dX4_mostSetting_50 : decode cX4_mostSetting 50 = .ok (.getfield 196, 3) := by decide +kernel
theorem dX4_mostSetting_53 : decode cX4_mostSetting 53 = .ok (.ireturn, 1) := by decide +kernel
theorem dX4_mostSetting_54 : decode cX4_mostSetting 54 = .ok (.iconst 0, 1) := by decide +kernel
theorem dX4_mostSetting_55 : decode cX4_mostSetting 55 = .ok (.istore 5, 2) := by decide +kernel
theorem dX4_mostSetting_57 : decode cX4_mostSetting 57 = .ok (.iconst 0, 1) := by decide +kernel
theorem dX4_mostSetting_58 : decode cX4_mostSetting 58 = .ok (.istore 6, 2) := by decide +kernel
theorem dX4_mostSetting_60 : decode cX4_mostSetting 60 = .ok (.iload 6, 2) := by decide +kernel
theorem dX4_mostSetting_62 : decode cX4_mostSetting 62 = .ok (.iconst 4, 1) := by decide +kernel
theorem dX4_mostSetting_63 : decode cX4_mostSetting 63 = .ok (.if_icmp .gt 27, 3) := by decide +kernel
theorem dX4_mostSetting_66 : decode cX4_mostSetting 66 = .ok (.iload 5, 2) := by decide +kernel
theorem dX4_mostSetting_68 : decode cX4_mostSetting 68 = .ok (.aload_n 0, 1) := by decide +kernel
theorem dX4_mostSetting_69 : decode cX4_mostSetting 69 = .ok (.aload 4, 2) := by decide +kernel
theorem dX4_mostSetting_71 : decode cX4_mostSetting 71 = .ok (.iload 6, 2) := by decide +kernel
theorem dX4_mostSetting_73 : decode cX4_mostSetting 73 = .ok (.iload_n 3, 1) := by decide +kernel
theorem dX4_mostSetting_74 : decode cX4_mostSetting 74 = .ok (.iconst 1, 1) := by decide +kernel
theorem dX4_mostSetting_75 : decode cX4_mostSetting 75 = .ok (.isub, 1) := by decide +kernel
theorem dX4_mostSetting_76 : decode cX4_mostSetting 76 = .ok (.invokevirtual 322, 3) := by decide +kernel
theorem dX4_mostSetting_79 : decode cX4_mostSetting 79 = .ok (.invokestatic 326, 3) := by decide +kernel
theorem dX4_mostSetting_82 : decode cX4_mostSetting 82 = .ok (.istore 5, 2) := by decide +kernel
theorem dX4_mostSetting_84 : decode cX4_mostSetting 84 = .ok (.iinc 6 1, 3) := by decide +kernel
theorem dX4_mostSetting_87 : decode cX4_mostSetting 87 = .ok (.goto (-27), 3) := by decide +kernel
theorem dX4_mostSetting_90 : decode cX4_mostSetting 90 = .ok (.iload 5, 2) := by decide +kernel
theorem dX4_mostSetting_92 : decode cX4_mostSetting 92 = .ok (.ireturn, 1) := by decide +kernel
theorem dX4_greatestPart_0 : decode cX4_greatestPart 0 = .ok (.aload_n 0, 1) := by decide +kernel
theorem dX4_greatestPart_1 : decode cX4_greatestPart 1 = .ok (.getfield 43, 3) := by decide +kernel
theorem dX4_greatestPart_4 : decode cX4_greatestPart 4 = .ok (.aload_n 0, 1) := by decide +kernel
theorem dX4_greatestPart_5 : decode cX4_greatestPart 5 = .ok (.getfield 21, 3) := by decide +kernel
theorem dX4_greatestPart_8 : decode cX4_greatestPart 8 = .ok (.invokevirtual 207, 3) := by decide +kernel
theorem dX4_greatestPart_11 : decode cX4_greatestPart 11 = .ok (.iconst 0, 1) := by decide +kernel
theorem dX4_greatestPart_12 : decode cX4_greatestPart 12 = .ok (.istore_n 3, 1) := by decide +kernel
theorem dX4_greatestPart_13 : decode cX4_greatestPart 13 = .ok (.iconst 0, 1) := by decide +kernel
theorem dX4_greatestPart_14 : decode cX4_greatestPart 14 = .ok (.istore 4, 2) := by decide +kernel
theorem dX4_greatestPart_16 : decode cX4_greatestPart 16 = .ok (.iload 4, 2) := by decide +kernel
theorem dX4_greatestPart_18 : decode cX4_greatestPart 18 = .ok (.bipush 6, 2) := by decide +kernel
theorem dX4_greatestPart_20 : decode cX4_greatestPart 20 = .ok (.if_icmp .ge 47, 3) := by decide +kernel
theorem dX4_greatestPart_23 : decode cX4_greatestPart 23 = .ok (.aload_n 0, 1) := by decide +kernel
theorem dX4_greatestPart_24 : decode cX4_greatestPart 24 = .ok (.getfield 43, 3) := by decide +kernel
theorem dX4_greatestPart_27 : decode cX4_greatestPart 27 = .ok (.getfield 141, 3) := by decide +kernel
theorem dX4_greatestPart_30 : decode cX4_greatestPart 30 = .ok (.iload_n 1, 1) := by decide +kernel
theorem dX4_greatestPart_31 : decode cX4_greatestPart 31 = .ok (.iload 4, 2) := by decide +kernel
theorem dX4_greatestPart_33 : decode cX4_greatestPart 33 = .ok (.iastore, 1) := by decide +kernel
theorem dX4_greatestPart_34 : decode cX4_greatestPart 34 = .ok (.iload_n 3, 1) := by decide +kernel
theorem dX4_greatestPart_35 : decode cX4_greatestPart 35 = .ok (.aload_n 0, 1) := by decide +kernel
theorem dX4_greatestPart_36 : decode cX4_greatestPart 36 = .ok (.iload_n 1, 1) := by decide +kernel
theorem dX4_greatestPart_37 : decode cX4_greatestPart 37 = .ok (.iload_n 2, 1) := by decide +kernel
theorem dX4_greatestPart_38 : decode cX4_greatestPart 38 = .ok (.aload_n 0, 1) := by decide +kernel
theorem dX4_greatestPart_39 : decode cX4_greatestPart 39 = .ok (.getfield 43, 3) := by decide +kernel
theorem dX4_greatestPart_42 : decode cX4_greatestPart 42 = .ok (.iload_n 1, 1) := by decide +kernel
theorem dX4_greatestPart_43 : decode cX4_greatestPart 43 = .ok (.iload_n 2, 1) := by decide +kernel
theorem dX4_greatestPart_44 : decode cX4_greatestPart 44 = .ok (.aload_n 0, 1) := by decide +kernel
theorem dX4_greatestPart_45 : decode cX4_greatestPart 45 = .ok (.getfield 28, 3) := by decide +kernel
theorem dX4_greatestPart_48 : decode cX4_greatestPart 48 = .ok (.getfield 169, 3) := by decide +kernel
theorem dX4_greatestPart_51 : decode cX4_greatestPart 51 = .ok (.invokevirtual 150, 3) := by decide +kernel
theorem dX4_greatestPart_54 : decode cX4_greatestPart 54 = .ok (.invokevirtual 331, 3) := by decide +kernel
theorem dX4_greatestPart_57 : decode cX4_greatestPart 57 = .ok (.invokestatic 326, 3) := by decide +kernel
theorem dX4_greatestPart_60 : decode cX4_greatestPart 60 = .ok (.istore_n 3, 1) := by decide +kernel
theorem dX4_greatestPart_61 : decode cX4_greatestPart 61 = .ok (.iinc 4 1, 3) := by decide +kernel
theorem dX4_greatestPart_64 : decode cX4_greatestPart 64 = .ok (.goto (-48), 3) := by decide +kernel
theorem dX4_greatestPart_67 : decode cX4_greatestPart 67 = .ok (.iload_n 3, 1) := by decide +kernel
theorem dX4_greatestPart_68 : decode cX4_greatestPart 68 = .ok (.ireturn, 1) := by decide +kernel
theorem dX4_kindsGrinding_0 : decode cX4_kindsGrinding 0 = .ok (.iconst 0, 1) := by decide +kernel
theorem dX4_kindsGrinding_1 : decode cX4_kindsGrinding 1 = .ok (.istore 4, 2) := by decide +kernel
theorem dX4_kindsGrinding_3 : decode cX4_kindsGrinding 3 = .ok (.iconst 0, 1) := by decide +kernel
theorem dX4_kindsGrinding_4 : decode cX4_kindsGrinding 4 = .ok (.istore 5, 2) := by decide +kernel
theorem dX4_kindsGrinding_6 : decode cX4_kindsGrinding 6 = .ok (.iload 5, 2) := by decide +kernel
theorem dX4_kindsGrinding_8 : decode cX4_kindsGrinding 8 = .ok (.bipush 6, 2) := by decide +kernel
theorem dX4_kindsGrinding_10 : decode cX4_kindsGrinding 10 = .ok (.if_icmp .ge 43, 3) := by decide +kernel
theorem dX4_kindsGrinding_13 : decode cX4_kindsGrinding 13 = .ok (.aload_n 0, 1) := by decide +kernel
theorem dX4_kindsGrinding_14 : decode cX4_kindsGrinding 14 = .ok (.getfield 43, 3) := by decide +kernel
theorem dX4_kindsGrinding_17 : decode cX4_kindsGrinding 17 = .ok (.getfield 141, 3) := by decide +kernel
theorem dX4_kindsGrinding_20 : decode cX4_kindsGrinding 20 = .ok (.iload_n 1, 1) := by decide +kernel
theorem dX4_kindsGrinding_21 : decode cX4_kindsGrinding 21 = .ok (.iload 5, 2) := by decide +kernel
theorem dX4_kindsGrinding_23 : decode cX4_kindsGrinding 23 = .ok (.iastore, 1) := by decide +kernel
theorem dX4_kindsGrinding_24 : decode cX4_kindsGrinding 24 = .ok (.aload_n 0, 1) := by decide +kernel
theorem dX4_kindsGrinding_25 : decode cX4_kindsGrinding 25 = .ok (.getfield 43, 3) := by decide +kernel
theorem dX4_kindsGrinding_28 : decode cX4_kindsGrinding 28 = .ok (.iload_n 1, 1) := by decide +kernel
theorem dX4_kindsGrinding_29 : decode cX4_kindsGrinding 29 = .ok (.iload_n 2, 1) := by decide +kernel
theorem dX4_kindsGrinding_30 : decode cX4_kindsGrinding 30 = .ok (.aload_n 0, 1) := by decide +kernel
theorem dX4_kindsGrinding_31 : decode cX4_kindsGrinding 31 = .ok (.getfield 28, 3) := by decide +kernel
theorem dX4_kindsGrinding_34 : decode cX4_kindsGrinding 34 = .ok (.getfield 169, 3) := by decide +kernel
theorem dX4_kindsGrinding_37 : decode cX4_kindsGrinding 37 = .ok (.invokevirtual 150, 3) := by decide +kernel
theorem dX4_kindsGrinding_40 : decode cX4_kindsGrinding 40 = .ok (.iload_n 3, 1) := by decide +kernel
theorem dX4_kindsGrinding_41 : decode cX4_kindsGrinding 41 = .ok (.if_icmp .ne 6, 3) := by decide +kernel
theorem dX4_kindsGrinding_44 : decode cX4_kindsGrinding 44 = .ok (.iinc 4 1, 3) := by decide +kernel
theorem dX4_kindsGrinding_47 : decode cX4_kindsGrinding 47 = .ok (.iinc 5 1, 3) := by decide +kernel
theorem dX4_kindsGrinding_50 : decode cX4_kindsGrinding 50 = .ok (.goto (-44), 3) := by decide +kernel
theorem dX4_kindsGrinding_53 : decode cX4_kindsGrinding 53 = .ok (.iload 4, 2) := by decide +kernel
theorem dX4_kindsGrinding_55 : decode cX4_kindsGrinding 55 = .ok (.ireturn, 1) := by decide +kernel
theorem dX4_millersTurn_0 : decode cX4_millersTurn 0 = .ok (.iload_n 1, 1) := by decide +kernel
theorem dX4_millersTurn_1 : decode cX4_millersTurn 1 = .ok (.ifCond .gt 10, 3) := by decide +kernel
theorem dX4_millersTurn_4 : decode cX4_millersTurn 4 = .ok (.aload_n 0, 1) := by decide +kernel
theorem dX4_millersTurn_5 : decode cX4_millersTurn 5 = .ok (.iload_n 2, 1) := by decide +kernel
theorem dX4_millersTurn_6 : decode cX4_millersTurn 6 = .ok (.iload_n 3, 1) := by decide +kernel
theorem dX4_millersTurn_7 : decode cX4_millersTurn 7 = .ok (.invokevirtual 334, 3) := by decide +kernel
theorem dX4_millersTurn_10 : decode cX4_millersTurn 10 = .ok (.ireturn, 1) := by decide +kernel
theorem dX4_millersTurn_11 : decode cX4_millersTurn 11 = .ok (.aload_n 0, 1) := by decide +kernel
theorem dX4_millersTurn_12 : decode cX4_millersTurn 12 = .ok (.iload_n 1, 1) := by decide +kernel
theorem dX4_millersTurn_13 : decode cX4_millersTurn 13 = .ok (.iconst 1, 1) := by decide +kernel
theorem dX4_millersTurn_14 : decode cX4_millersTurn 14 = .ok (.isub, 1) := by decide +kernel
theorem dX4_millersTurn_15 : decode cX4_millersTurn 15 = .ok (.iload_n 2, 1) := by decide +kernel
theorem dX4_millersTurn_16 : decode cX4_millersTurn 16 = .ok (.iload_n 3, 1) := by decide +kernel
theorem dX4_millersTurn_17 : decode cX4_millersTurn 17 = .ok (.invokevirtual 337, 3) := by decide +kernel
theorem dX4_millersTurn_20 : decode cX4_millersTurn 20 = .ok (.istore 4, 2) := by decide +kernel
theorem dX4_millersTurn_22 : decode cX4_millersTurn 22 = .ok (.aload_n 0, 1) := by decide +kernel
theorem dX4_millersTurn_23 : decode cX4_millersTurn 23 = .ok (.iload_n 1, 1) := by decide +kernel
theorem dX4_millersTurn_24 : decode cX4_millersTurn 24 = .ok (.iconst 1, 1) := by decide +kernel
theorem dX4_millersTurn_25 : decode cX4_millersTurn 25 = .ok (.isub, 1) := by decide +kernel
theorem dX4_millersTurn_26 : decode cX4_millersTurn 26 = .ok (.iload_n 2, 1) := by decide +kernel
theorem dX4_millersTurn_27 : decode cX4_millersTurn 27 = .ok (.iconst 0, 1) := by decide +kernel
theorem dX4_millersTurn_28 : decode cX4_millersTurn 28 = .ok (.invokevirtual 337, 3) := by decide +kernel
theorem dX4_millersTurn_31 : decode cX4_millersTurn 31 = .ok (.istore 5, 2) := by decide +kernel
theorem dX4_millersTurn_33 : decode cX4_millersTurn 33 = .ok (.aload_n 0, 1) := by decide +kernel
theorem dX4_millersTurn_34 : decode cX4_millersTurn 34 = .ok (.iload_n 1, 1) := by decide +kernel
theorem dX4_millersTurn_35 : decode cX4_millersTurn 35 = .ok (.iconst 1, 1) := by decide +kernel
theorem dX4_millersTurn_36 : decode cX4_millersTurn 36 = .ok (.isub, 1) := by decide +kernel
theorem dX4_millersTurn_37 : decode cX4_millersTurn 37 = .ok (.iconst 4, 1) := by decide +kernel
theorem dX4_millersTurn_38 : decode cX4_millersTurn 38 = .ok (.iload_n 2, 1) := by decide +kernel
theorem dX4_millersTurn_39 : decode cX4_millersTurn 39 = .ok (.iconst 1, 1) := by decide +kernel
theorem dX4_millersTurn_40 : decode cX4_millersTurn 40 = .ok (.iadd, 1) := by decide +kernel
theorem dX4_millersTurn_41 : decode cX4_millersTurn 41 = .ok (.invokestatic 340, 3) := by decide +kernel
theorem dX4_millersTurn_44 : decode cX4_millersTurn 44 = .ok (.iload_n 3, 1) := by decide +kernel
theorem dX4_millersTurn_45 : decode cX4_millersTurn 45 = .ok (.invokevirtual 337, 3) := by decide +kernel
theorem dX4_millersTurn_48 : decode cX4_millersTurn 48 = .ok (.istore 6, 2) := by decide +kernel
theorem dX4_millersTurn_50 : decode cX4_millersTurn 50 = .ok (.iload 4, 2) := by decide +kernel
theorem dX4_millersTurn_52 : decode cX4_millersTurn 52 = .ok (.iload 5, 2) := by decide +kernel
theorem dX4_millersTurn_54 : decode cX4_millersTurn 54 = .ok (.iload 6, 2) := by decide +kernel
theorem dX4_millersTurn_56 : decode cX4_millersTurn 56 = .ok (.invokestatic 326, 3) := by decide +kernel
theorem dX4_millersTurn_59 : decode cX4_millersTurn 59 = .ok (.invokestatic 326, 3) := by decide +kernel
theorem dX4_millersTurn_62 : decode cX4_millersTurn 62 = .ok (.ireturn, 1) := by decide +kernel
theorem dX4_throwersTurn_0 : decode cX4_throwersTurn 0 = .ok (.iload_n 1, 1) := by decide +kernel
theorem dX4_throwersTurn_1 : decode cX4_throwersTurn 1 = .ok (.ifCond .gt 10, 3) := by decide +kernel
theorem dX4_throwersTurn_4 : decode cX4_throwersTurn 4 = .ok (.aload_n 0, 1) := by decide +kernel
theorem dX4_throwersTurn_5 : decode cX4_throwersTurn 5 = .ok (.iload_n 2, 1) := by decide +kernel
theorem dX4_throwersTurn_6 : decode cX4_throwersTurn 6 = .ok (.iload_n 3, 1) := by decide +kernel
theorem dX4_throwersTurn_7 : decode cX4_throwersTurn 7 = .ok (.invokevirtual 334, 3) := by decide +kernel
theorem dX4_throwersTurn_10 : decode cX4_throwersTurn 10 = .ok (.ireturn, 1) := by decide +kernel
theorem dX4_throwersTurn_11 : decode cX4_throwersTurn 11 = .ok (.aload_n 0, 1) := by decide +kernel
theorem dX4_throwersTurn_12 : decode cX4_throwersTurn 12 = .ok (.iload_n 1, 1) := by decide +kernel
theorem dX4_throwersTurn_13 : decode cX4_throwersTurn 13 = .ok (.iconst 1, 1) := by decide +kernel
theorem dX4_throwersTurn_14 : decode cX4_throwersTurn 14 = .ok (.isub, 1) := by decide +kernel
theorem dX4_throwersTurn_15 : decode cX4_throwersTurn 15 = .ok (.iload_n 2, 1) := by decide +kernel
theorem dX4_throwersTurn_16 : decode cX4_throwersTurn 16 = .ok (.iload_n 3, 1) := by decide +kernel
theorem dX4_throwersTurn_17 : decode cX4_throwersTurn 17 = .ok (.invokevirtual 227, 3) := by decide +kernel
theorem dX4_throwersTurn_20 : decode cX4_throwersTurn 20 = .ok (.istore 4, 2) := by decide +kernel
theorem dX4_throwersTurn_22 : decode cX4_throwersTurn 22 = .ok (.aload_n 0, 1) := by decide +kernel
theorem dX4_throwersTurn_23 : decode cX4_throwersTurn 23 = .ok (.iload_n 1, 1) := by decide +kernel
theorem dX4_throwersTurn_24 : decode cX4_throwersTurn 24 = .ok (.iconst 1, 1) := by decide +kernel
theorem dX4_throwersTurn_25 : decode cX4_throwersTurn 25 = .ok (.isub, 1) := by decide +kernel
theorem dX4_throwersTurn_26 : decode cX4_throwersTurn 26 = .ok (.iload_n 2, 1) := by decide +kernel
theorem dX4_throwersTurn_27 : decode cX4_throwersTurn 27 = .ok (.bipush 40, 2) := by decide +kernel
theorem dX4_throwersTurn_29 : decode cX4_throwersTurn 29 = .ok (.iload_n 3, 1) := by decide +kernel
theorem dX4_throwersTurn_30 : decode cX4_throwersTurn 30 = .ok (.iconst 5, 1) := by decide +kernel
theorem dX4_throwersTurn_31 : decode cX4_throwersTurn 31 = .ok (.iadd, 1) := by decide +kernel
theorem dX4_throwersTurn_32 : decode cX4_throwersTurn 32 = .ok (.invokestatic 340, 3) := by decide +kernel
theorem dX4_throwersTurn_35 : decode cX4_throwersTurn 35 = .ok (.invokevirtual 227, 3) := by decide +kernel
theorem dX4_throwersTurn_38 : decode cX4_throwersTurn 38 = .ok (.istore 5, 2) := by decide +kernel
theorem dX4_throwersTurn_40 : decode cX4_throwersTurn 40 = .ok (.iload 4, 2) := by decide +kernel
theorem dX4_throwersTurn_42 : decode cX4_throwersTurn 42 = .ok (.iload 5, 2) := by decide +kernel
theorem dX4_throwersTurn_44 : decode cX4_throwersTurn 44 = .ok (.invokestatic 340, 3) := by decide +kernel
theorem dX4_throwersTurn_47 : decode cX4_throwersTurn 47 = .ok (.ireturn, 1) := by decide +kernel
theorem dX4_groundAfterDuel_0 : decode cX4_groundAfterDuel 0 = .ok (.aload_n 0, 1) := by decide +kernel
theorem dX4_groundAfterDuel_1 : decode cX4_groundAfterDuel 1 = .ok (.invokevirtual 182, 3) := by decide +kernel
theorem dX4_groundAfterDuel_4 : decode cX4_groundAfterDuel 4 = .ok (.aload_n 0, 1) := by decide +kernel
theorem dX4_groundAfterDuel_5 : decode cX4_groundAfterDuel 5 = .ok (.getfield 46, 3) := by decide +kernel
theorem dX4_groundAfterDuel_8 : decode cX4_groundAfterDuel 8 = .ok (.iload_n 1, 1) := by decide +kernel
theorem dX4_groundAfterDuel_9 : decode cX4_groundAfterDuel 9 = .ok (.putfield 166, 3) := by decide +kernel
theorem dX4_groundAfterDuel_12 : decode cX4_groundAfterDuel 12 = .ok (.aload_n 0, 1) := by decide +kernel
theorem dX4_groundAfterDuel_13 : decode cX4_groundAfterDuel 13 = .ok (.getfield 46, 3) := by decide +kernel
theorem dX4_groundAfterDuel_16 : decode cX4_groundAfterDuel 16 = .ok (.iload_n 2, 1) := by decide +kernel
theorem dX4_groundAfterDuel_17 : decode cX4_groundAfterDuel 17 = .ok (.putfield 169, 3) := by decide +kernel
theorem dX4_groundAfterDuel_20 : decode cX4_groundAfterDuel 20 = .ok (.iconst 0, 1) := by decide +kernel
theorem dX4_groundAfterDuel_21 : decode cX4_groundAfterDuel 21 = .ok (.istore_n 3, 1) := by decide +kernel
theorem dX4_groundAfterDuel_22 : decode cX4_groundAfterDuel 22 = .ok (.iload_n 3, 1) := by decide +kernel
theorem dX4_groundAfterDuel_23 : decode cX4_groundAfterDuel 23 = .ok (.bipush 8, 2) := by decide +kernel
theorem dX4_groundAfterDuel_25 : decode cX4_groundAfterDuel 25 = .ok (.if_icmp .ge 21, 3) := by decide +kernel
theorem dX4_groundAfterDuel_28 : decode cX4_groundAfterDuel 28 = .ok (.aload_n 0, 1) := by decide +kernel
theorem dX4_groundAfterDuel_29 : decode cX4_groundAfterDuel 29 = .ok (.getfield 46, 3) := by decide +kernel
theorem dX4_groundAfterDuel_32 : decode cX4_groundAfterDuel 32 = .ok (.aload_n 0, 1) := by decide +kernel
theorem dX4_groundAfterDuel_33 : decode cX4_groundAfterDuel 33 = .ok (.getfield 21, 3) := by decide +kernel
theorem dX4_groundAfterDuel_36 : decode cX4_groundAfterDuel 36 = .ok (.invokevirtual 189, 3) := by decide +kernel
theorem dX4_groundAfterDuel_39 : decode cX4_groundAfterDuel 39 = .ok (.pop, 1) := by decide +kernel
theorem dX4_groundAfterDuel_40 : decode cX4_groundAfterDuel 40 = .ok (.iinc 3 1, 3) := by decide +kernel
theorem dX4_groundAfterDuel_43 : decode cX4_groundAfterDuel 43 = .ok (.goto (-21), 3) := by decide +kernel
theorem dX4_groundAfterDuel_46 : decode cX4_groundAfterDuel 46 = .ok (.aload_n 0, 1) := by decide +kernel
theorem dX4_groundAfterDuel_47 : decode cX4_groundAfterDuel 47 = .ok (.getfield 46, 3) := by decide +kernel
theorem dX4_groundAfterDuel_50 : decode cX4_groundAfterDuel 50 = .ok (.getfield 196, 3) := by decide +kernel
theorem dX4_groundAfterDuel_53 : decode cX4_groundAfterDuel 53 = .ok (.ireturn, 1) := by decide +kernel
theorem dX4_weightOf_0 : decode cX4_weightOf 0 = .ok (.iload_n 0, 1) := by decide +kernel
theorem dX4_weightOf_1 : decode cX4_weightOf 1 = .ok (.invokestatic 199, 3) := by decide +kernel
theorem dX4_weightOf_4 : decode cX4_weightOf 4 = .ok (.istore_n 2, 1) := by decide +kernel
theorem dX4_weightOf_5 : decode cX4_weightOf 5 = .ok (.iload_n 1, 1) := by decide +kernel
theorem dX4_weightOf_6 : decode cX4_weightOf 6 = .ok (.iload_n 2, 1) := by decide +kernel
theorem dX4_weightOf_7 : decode cX4_weightOf 7 = .ok (.invokestatic 237, 3) := by decide +kernel
theorem dX4_weightOf_10 : decode cX4_weightOf 10 = .ok (.bipush 12, 2) := by decide +kernel
theorem dX4_weightOf_12 : decode cX4_weightOf 12 = .ok (.iload_n 1, 1) := by decide +kernel
theorem dX4_weightOf_13 : decode cX4_weightOf 13 = .ok (.isub, 1) := by decide +kernel
theorem dX4_weightOf_14 : decode cX4_weightOf 14 = .ok (.bipush 6, 2) := by decide +kernel
theorem dX4_weightOf_16 : decode cX4_weightOf 16 = .ok (.iload_n 2, 1) := by decide +kernel
theorem dX4_weightOf_17 : decode cX4_weightOf 17 = .ok (.isub, 1) := by decide +kernel
theorem dX4_weightOf_18 : decode cX4_weightOf 18 = .ok (.invokestatic 237, 3) := by decide +kernel
theorem dX4_weightOf_21 : decode cX4_weightOf 21 = .ok (.lmul, 1) := by decide +kernel
theorem dX4_weightOf_22 : decode cX4_weightOf 22 = .ok (.lreturn, 1) := by decide +kernel
theorem dX4_power_0 : decode cX4_power 0 = .ok (.lconst 1, 1) := by decide +kernel
theorem dX4_power_1 : decode cX4_power 1 = .ok (.lstore_n 2, 1) := by decide +kernel
theorem dX4_power_2 : decode cX4_power 2 = .ok (.iconst 0, 1) := by decide +kernel
theorem dX4_power_3 : decode cX4_power 3 = .ok (.istore 4, 2) := by decide +kernel
theorem dX4_power_5 : decode cX4_power 5 = .ok (.iload 4, 2) := by decide +kernel
theorem dX4_power_7 : decode cX4_power 7 = .ok (.iload_n 1, 1) := by decide +kernel
theorem dX4_power_8 : decode cX4_power 8 = .ok (.if_icmp .ge 14, 3) := by decide +kernel
theorem dX4_power_11 : decode cX4_power 11 = .ok (.lload_n 2, 1) := by decide +kernel
theorem dX4_power_12 : decode cX4_power 12 = .ok (.iload_n 0, 1) := by decide +kernel
theorem dX4_power_13 : decode cX4_power 13 = .ok (.i2l, 1) := by decide +kernel
theorem dX4_power_14 : decode cX4_power 14 = .ok (.lmul, 1) := by decide +kernel
theorem dX4_power_15 : decode cX4_power 15 = .ok (.lstore_n 2, 1) := by decide +kernel
theorem dX4_power_16 : decode cX4_power 16 = .ok (.iinc 4 1, 3) := by decide +kernel
theorem dX4_power_19 : decode cX4_power 19 = .ok (.goto (-14), 3) := by decide +kernel
theorem dX4_power_22 : decode cX4_power 22 = .ok (.lload_n 2, 1) := by decide +kernel
theorem dX4_power_23 : decode cX4_power 23 = .ok (.lreturn, 1) := by decide +kernel
theorem dX4_tell_0 : decode cX4_tell 0 = .ok (.lload_n 1, 1) := by decide +kernel
theorem dX4_tell_1 : decode cX4_tell 1 = .ok (.lload_n 3, 1) := by decide +kernel
theorem dX4_tell_2 : decode cX4_tell 2 = .ok (.invokestatic 343, 3) := by decide +kernel
theorem dX4_tell_5 : decode cX4_tell 5 = .ok (.lstore 5, 2) := by decide +kernel
theorem dX4_tell_7 : decode cX4_tell 7 = .ok (.lload 5, 2) := by decide +kernel
theorem dX4_tell_9 : decode cX4_tell 9 = .ok (.lconst 0, 1) := by decide +kernel
theorem dX4_tell_10 : decode cX4_tell 10 = .ok (.lcmp, 1) := by decide +kernel
theorem dX4_tell_11 : decode cX4_tell 11 = .ok (.ifCond .le 19, 3) := by decide +kernel
theorem dX4_tell_14 : decode cX4_tell 14 = .ok (.aload_n 0, 1) := by decide +kernel
theorem dX4_tell_15 : decode cX4_tell 15 = .ok (.lload_n 1, 1) := by decide +kernel
theorem dX4_tell_16 : decode cX4_tell 16 = .ok (.lload 5, 2) := by decide +kernel
theorem dX4_tell_18 : decode cX4_tell 18 = .ok (.ldiv, 1) := by decide +kernel
theorem dX4_tell_19 : decode cX4_tell 19 = .ok (.putfield 57, 3) := by decide +kernel
theorem dX4_tell_22 : decode cX4_tell 22 = .ok (.aload_n 0, 1) := by decide +kernel
theorem dX4_tell_23 : decode cX4_tell 23 = .ok (.lload_n 3, 1) := by decide +kernel
theorem dX4_tell_24 : decode cX4_tell 24 = .ok (.lload 5, 2) := by decide +kernel
theorem dX4_tell_26 : decode cX4_tell 26 = .ok (.ldiv, 1) := by decide +kernel
theorem dX4_tell_27 : decode cX4_tell 27 = .ok (.putfield 61, 3) := by decide +kernel
theorem dX4_tell_30 : decode cX4_tell 30 = .ok (.return_, 1) := by decide +kernel
theorem dX4_commonDivisor_0 : decode cX4_commonDivisor 0 = .ok (.lload_n 0, 1) := by decide +kernel
theorem dX4_commonDivisor_1 : decode cX4_commonDivisor 1 = .ok (.lstore 4, 2) := by decide +kernel
theorem dX4_commonDivisor_3 : decode cX4_commonDivisor 3 = .ok (.lload_n 2, 1) := by decide +kernel
theorem dX4_commonDivisor_4 : decode cX4_commonDivisor 4 = .ok (.lstore 6, 2) := by decide +kernel
theorem dX4_commonDivisor_6 : decode cX4_commonDivisor 6 = .ok (.iconst 0, 1) := by decide +kernel
theorem dX4_commonDivisor_7 : decode cX4_commonDivisor 7 = .ok (.istore 8, 2) := by decide +kernel
theorem dX4_commonDivisor_9 : decode cX4_commonDivisor 9 = .ok (.iload 8, 2) := by decide +kernel
theorem dX4_commonDivisor_11 : decode cX4_commonDivisor 11 = .ok (.bipush 100, 2) := by decide +kernel
theorem dX4_commonDivisor_13 : decode cX4_commonDivisor 13 = .ok (.if_icmp .ge 31, 3) := by decide +kernel
theorem dX4_commonDivisor_16 : decode cX4_commonDivisor 16 = .ok (.lload 6, 2) := by decide +kernel
theorem dX4_commonDivisor_18 : decode cX4_commonDivisor 18 = .ok (.lconst 0, 1) := by decide +kernel
theorem dX4_commonDivisor_19 : decode cX4_commonDivisor 19 = .ok (.lcmp, 1) := by decide +kernel
theorem dX4_commonDivisor_20 : decode cX4_commonDivisor 20 = .ok (.ifCond .eq 24, 3) := by decide +kernel
theorem dX4_commonDivisor_23 : decode cX4_commonDivisor 23 = .ok (.lload 4, 2) := by decide +kernel
theorem dX4_commonDivisor_25 : decode cX4_commonDivisor 25 = .ok (.lload 6, 2) := by decide +kernel
theorem dX4_commonDivisor_27 : decode cX4_commonDivisor 27 = .ok (.lrem, 1) := by decide +kernel
theorem dX4_commonDivisor_28 : decode cX4_commonDivisor 28 = .ok (.lstore 9, 2) := by decide +kernel
theorem dX4_commonDivisor_30 : decode cX4_commonDivisor 30 = .ok (.lload 6, 2) := by decide +kernel
theorem dX4_commonDivisor_32 : decode cX4_commonDivisor 32 = .ok (.lstore 4, 2) := by decide +kernel
theorem dX4_commonDivisor_34 : decode cX4_commonDivisor 34 = .ok (.lload 9, 2) := by decide +kernel
theorem dX4_commonDivisor_36 : decode cX4_commonDivisor 36 = .ok (.lstore 6, 2) := by decide +kernel
theorem dX4_commonDivisor_38 : decode cX4_commonDivisor 38 = .ok (.iinc 8 1, 3) := by decide +kernel
theorem dX4_commonDivisor_41 : decode cX4_commonDivisor 41 = .ok (.goto (-32), 3) := by decide +kernel
theorem dX4_commonDivisor_44 : decode cX4_commonDivisor 44 = .ok (.lload 4, 2) := by decide +kernel
theorem dX4_commonDivisor_46 : decode cX4_commonDivisor 46 = .ok (.lreturn, 1) := by decide +kernel
theorem dX4_stripsThere_0 : decode cX4_stripsThere 0 = .ok (.iconst 0, 1) := by decide +kernel
theorem dX4_stripsThere_1 : decode cX4_stripsThere 1 = .ok (.istore_n 1, 1) := by decide +kernel
theorem dX4_stripsThere_2 : decode cX4_stripsThere 2 = .ok (.iconst 0, 1) := by decide +kernel
theorem dX4_stripsThere_3 : decode cX4_stripsThere 3 = .ok (.istore_n 2, 1) := by decide +kernel
theorem dX4_stripsThere_4 : decode cX4_stripsThere 4 = .ok (.iload_n 2, 1) := by decide +kernel
theorem dX4_stripsThere_5 : decode cX4_stripsThere 5 = .ok (.aload_n 0, 1) := by decide +kernel
theorem dX4_stripsThere_6 : decode cX4_stripsThere 6 = .ok (.arraylength, 1) := by decide +kernel
theorem dX4_stripsThere_7 : decode cX4_stripsThere 7 = .ok (.if_icmp .ge 21, 3) := by decide +kernel
theorem dX4_stripsThere_10 : decode cX4_stripsThere 10 = .ok (.aload_n 0, 1) := by decide +kernel
theorem dX4_stripsThere_11 : decode cX4_stripsThere 11 = .ok (.iload_n 2, 1) := by decide +kernel
theorem dX4_stripsThere_12 : decode cX4_stripsThere 12 = .ok (.aaload, 1) := by decide +kernel
theorem dX4_stripsThere_13 : decode cX4_stripsThere 13 = .ok (.invokevirtual 94, 3) := by decide +kernel
theorem dX4_stripsThere_16 : decode cX4_stripsThere 16 = .ok (.ifCond .eq 6, 3) := by decide +kernel
theorem dX4_stripsThere_19 : decode cX4_stripsThere 19 = .ok (.iinc 1 1, 3) := by decide +kernel
theorem dX4_stripsThere_22 : decode cX4_stripsThere 22 = .ok (.iinc 2 1, 3) := by decide +kernel
theorem dX4_stripsThere_25 : decode cX4_stripsThere 25 = .ok (.goto (-21), 3) := by decide +kernel
theorem dX4_stripsThere_28 : decode cX4_stripsThere 28 = .ok (.iload_n 1, 1) := by decide +kernel
theorem dX4_stripsThere_29 : decode cX4_stripsThere 29 = .ok (.ireturn, 1) := by decide +kernel
theorem dX4_keptThere_0 : decode cX4_keptThere 0 = .ok (.iconst 0, 1) := by decide +kernel
theorem dX4_keptThere_1 : decode cX4_keptThere 1 = .ok (.istore_n 1, 1) := by decide +kernel
theorem dX4_keptThere_2 : decode cX4_keptThere 2 = .ok (.iconst 0, 1) := by decide +kernel
theorem dX4_keptThere_3 : decode cX4_keptThere 3 = .ok (.istore_n 2, 1) := by decide +kernel
theorem dX4_keptThere_4 : decode cX4_keptThere 4 = .ok (.iload_n 2, 1) := by decide +kernel
theorem dX4_keptThere_5 : decode cX4_keptThere 5 = .ok (.iconst 3, 1) := by decide +kernel
theorem dX4_keptThere_6 : decode cX4_keptThere 6 = .ok (.if_icmp .ge 24, 3) := by decide +kernel
theorem dX4_keptThere_9 : decode cX4_keptThere 9 = .ok (.aload_n 0, 1) := by decide +kernel
theorem dX4_keptThere_10 : decode cX4_keptThere 10 = .ok (.getfield 39, 3) := by decide +kernel
theorem dX4_keptThere_13 : decode cX4_keptThere 13 = .ok (.iload_n 2, 1) := by decide +kernel
theorem dX4_keptThere_14 : decode cX4_keptThere 14 = .ok (.aaload, 1) := by decide +kernel
theorem dX4_keptThere_15 : decode cX4_keptThere 15 = .ok (.getfield 72, 3) := by decide +kernel
theorem dX4_keptThere_18 : decode cX4_keptThere 18 = .ok (.ifCond .lt 6, 3) := by decide +kernel
theorem dX4_keptThere_21 : decode cX4_keptThere 21 = .ok (.iinc 1 1, 3) := by decide +kernel
theorem dX4_keptThere_24 : decode cX4_keptThere 24 = .ok (.iinc 2 1, 3) := by decide +kernel
theorem dX4_keptThere_27 : decode cX4_keptThere 27 = .ok (.goto (-23), 3) := by decide +kernel
theorem dX4_keptThere_30 : decode cX4_keptThere 30 = .ok (.iload_n 1, 1) := by decide +kernel
theorem dX4_keptThere_31 : decode cX4_keptThere 31 = .ok (.ireturn, 1) := by decide +kernel
end
section
theorem dX5_init_0 : decode cX5_init 0 = .ok (.aload_n 0, 1) := by decide +kernel
theorem dX5_init_1 : decode cX5_init 1 = .ok (.invokespecial 1, 3) := by decide +kernel
theorem dX5_init_4 : decode cX5_init 4 = .ok (.aload_n 0, 1) := by decide +kernel
theorem dX5_init_5 : decode cX5_init 5 = .ok (.bipush 6, 2) := by decide +kernel
theorem dX5_init_7 : decode cX5_init 7 = .ok (.newarray .int, 2) := by decide +kernel
theorem dX5_init_9 : decode cX5_init 9 = .ok (.putfield 7, 3) := by decide +kernel
theorem dX5_init_12 : decode cX5_init 12 = .ok (.aload_n 0, 1) := by decide +kernel
theorem dX5_init_13 : decode cX5_init 13 = .ok (.sipush 240, 3) := by decide +kernel
theorem dX5_init_16 : decode cX5_init 16 = .ok (.newarray .int, 2) := by decide +kernel
theorem dX5_init_18 : decode cX5_init 18 = .ok (.putfield 13, 3) := by decide +kernel
theorem dX5_init_21 : decode cX5_init 21 = .ok (.aload_n 0, 1) := by decide +kernel
theorem dX5_init_22 : decode cX5_init 22 = .ok (.iconst 4, 1) := by decide +kernel
theorem dX5_init_23 : decode cX5_init 23 = .ok (.newarray .int, 2) := by decide +kernel
theorem dX5_init_25 : decode cX5_init 25 = .ok (.putfield 16, 3) := by decide +kernel
theorem dX5_init_28 : decode cX5_init 28 = .ok (.aload_n 0, 1) := by decide +kernel
theorem dX5_init_29 : decode cX5_init 29 = .ok (.sipush 240, 3) := by decide +kernel
theorem dX5_init_32 : decode cX5_init 32 = .ok (.newarray .byte, 2) := by decide +kernel
theorem dX5_init_34 : decode cX5_init 34 = .ok (.putfield 19, 3) := by decide +kernel
theorem dX5_init_37 : decode cX5_init 37 = .ok (.aload_n 0, 1) := by decide +kernel
theorem dX5_init_38 : decode cX5_init 38 = .ok (.bipush 9, 2) := by decide +kernel
theorem dX5_init_40 : decode cX5_init 40 = .ok (.newarray .int, 2) := by decide +kernel
theorem dX5_init_42 : decode cX5_init 42 = .ok (.putfield 23, 3) := by decide +kernel
theorem dX5_init_45 : decode cX5_init 45 = .ok (.aload_n 0, 1) := by decide +kernel
theorem dX5_init_46 : decode cX5_init 46 = .ok (.bipush 9, 2) := by decide +kernel
theorem dX5_init_48 : decode cX5_init 48 = .ok (.newarray .int, 2) := by decide +kernel
theorem dX5_init_50 : decode cX5_init 50 = .ok (.putfield 26, 3) := by decide +kernel
theorem dX5_init_53 : decode cX5_init 53 = .ok (.aload_n 0, 1) := by decide +kernel
theorem dX5_init_54 : decode cX5_init 54 = .ok (.bipush 9, 2) := by decide +kernel
theorem dX5_init_56 : decode cX5_init 56 = .ok (.newarray .int, 2) := by decide +kernel
theorem dX5_init_58 : decode cX5_init 58 = .ok (.putfield 29, 3) := by decide +kernel
theorem dX5_init_61 : decode cX5_init 61 = .ok (.aload_n 0, 1) := by decide +kernel
theorem dX5_init_62 : decode cX5_init 62 = .ok (.bipush 10, 2) := by decide +kernel
theorem dX5_init_64 : decode cX5_init 64 = .ok (.newarray .int, 2) := by decide +kernel
theorem dX5_init_66 : decode cX5_init 66 = .ok (.putfield 32, 3) := by decide +kernel
theorem dX5_init_69 : decode cX5_init 69 = .ok (.aload_n 0, 1) := by decide +kernel
theorem dX5_init_70 : decode cX5_init 70 = .ok (.bipush 10, 2) := by decide +kernel
theorem dX5_init_72 : decode cX5_init 72 = .ok (.newarray .int, 2) := by decide +kernel
theorem dX5_init_74 : decode cX5_init 74 = .ok (.putfield 35, 3) := by decide +kernel
theorem dX5_init_77 : decode cX5_init 77 = .ok (.aload_n 0, 1) := by decide +kernel
theorem dX5_init_78 : decode cX5_init 78 = .ok (.bipush 10, 2) := by decide +kernel
theorem dX5_init_80 : decode cX5_init 80 = .ok (.newarray .int, 2) := by decide +kernel
theorem dX5_init_82 : decode cX5_init 82 = .ok (.putfield 38, 3) := by decide +kernel
theorem dX5_init_85 : decode cX5_init 85 = .ok (.aload_n 0, 1) := by decide +kernel
theorem dX5_init_86 : decode cX5_init 86 = .ok (.sipush 1020, 3) := by decide +kernel
theorem dX5_init_89 : decode cX5_init 89 = .ok (.newarray .int, 2) := by decide +kernel
theorem dX5_init_91 : decode cX5_init 91 = .ok (.putfield 41, 3) := by decide +kernel
theorem dX5_init_94 : decode cX5_init 94 = .ok (.aload_n 0, 1) := by decide +kernel
theorem dX5_init_95 : decode cX5_init 95 = .ok (.iconst 3, 1) := by decide +kernel
theorem dX5_init_96 : decode cX5_init 96 = .ok (.newarray .int, 2) := by decide +kernel
theorem dX5_init_98 : decode cX5_init 98 = .ok (.putfield 44, 3) := by decide +kernel
theorem dX5_init_101 : decode cX5_init 101 = .ok (.aload_n 0, 1) := by decide +kernel
theorem dX5_init_102 : decode cX5_init 102 = .ok (.lconst 1, 1) := by decide +kernel
theorem dX5_init_103 : decode cX5_init 103 = .ok (.putfield 47, 3) := by decide +kernel
theorem dX5_init_106 : decode cX5_init 106 = .ok (.aload_n 0, 1) := by decide +kernel
theorem dX5_init_107 : decode cX5_init 107 = .ok (.bipush 6, 2) := by decide +kernel
theorem dX5_init_109 : decode cX5_init 109 = .ok (.newarray .int, 2) := by decide +kernel
theorem dX5_init_111 : decode cX5_init 111 = .ok (.putfield 51, 3) := by decide +kernel
theorem dX5_init_114 : decode cX5_init 114 = .ok (.aload_n 0, 1) := by decide +kernel
theorem dX5_init_115 : decode cX5_init 115 = .ok (.sipush 216, 3) := by decide +kernel
theorem dX5_init_118 : decode cX5_init 118 = .ok (.newarray .int, 2) := by decide +kernel
theorem dX5_init_120 : decode cX5_init 120 = .ok (.putfield 54, 3) := by decide +kernel
theorem dX5_init_123 : decode cX5_init 123 = .ok (.iconst 0, 1) := by decide +kernel
theorem dX5_init_124 : decode cX5_init 124 = .ok (.istore_n 1, 1) := by decide +kernel
theorem dX5_init_125 : decode cX5_init 125 = .ok (.iload_n 1, 1) := by decide +kernel
theorem dX5_init_126 : decode cX5_init 126 = .ok (.bipush 6, 2) := by decide +kernel
theorem dX5_init_128 : decode cX5_init 128 = .ok (.if_icmp .ge 16, 3) := by decide +kernel
theorem dX5_init_131 : decode cX5_init 131 = .ok (.aload_n 0, 1) := by decide +kernel
theorem dX5_init_132 : decode cX5_init 132 = .ok (.getfield 7, 3) := by decide +kernel
theorem dX5_init_135 : decode cX5_init 135 = .ok (.iload_n 1, 1) := by decide +kernel
theorem dX5_init_136 : decode cX5_init 136 = .ok (.iconst (-1), 1) := by decide +kernel
theorem dX5_init_137 : decode cX5_init 137 = .ok (.iastore, 1) := by decide +kernel
theorem dX5_init_138 : decode cX5_init 138 = .ok (.iinc 1 1, 3) := by decide +kernel
theorem dX5_init_141 : decode cX5_init 141 = .ok (.goto (-16), 3) := by decide +kernel
theorem dX5_init_144 : decode cX5_init 144 = .ok (.iconst 0, 1) := by decide +kernel
theorem dX5_init_145 : decode cX5_init 145 = .ok (.istore_n 1, 1) := by decide +kernel
theorem dX5_init_146 : decode cX5_init 146 = .ok (.iload_n 1, 1) := by decide +kernel
theorem dX5_init_147 : decode cX5_init 147 = .ok (.iconst 4, 1) := by decide +kernel
theorem dX5_init_148 : decode cX5_init 148 = .ok (.if_icmp .ge 16, 3) := by decide +kernel
theorem dX5_init_151 : decode cX5_init 151 = .ok (.aload_n 0, 1) := by decide +kernel
theorem dX5_init_152 : decode cX5_init 152 = .ok (.getfield 16, 3) := by decide +kernel
theorem dX5_init_155 : decode cX5_init 155 = .ok (.iload_n 1, 1) := by decide +kernel
theorem dX5_init_156 : decode cX5_init 156 = .ok (.iconst (-1), 1) := by decide +kernel
theorem dX5_init_157 : decode cX5_init 157 = .ok (.iastore, 1) := by decide +kernel
theorem dX5_init_158 : decode cX5_init 158 = .ok (.iinc 1 1, 3) := by decide +kernel
theorem dX5_init_161 : decode cX5_init 161 = .ok (.goto (-15), 3) := by decide +kernel
theorem dX5_init_164 : decode cX5_init 164 = .ok (.iconst 0, 1) := by decide +kernel
theorem dX5_init_165 : decode cX5_init 165 = .ok (.istore_n 1, 1) := by decide +kernel
theorem dX5_init_166 : decode cX5_init 166 = .ok (.iload_n 1, 1) := by decide +kernel
theorem dX5_init_167 : decode cX5_init 167 = .ok (.iconst 3, 1) := by decide +kernel
theorem dX5_init_168 : decode cX5_init 168 = .ok (.if_icmp .ge 16, 3) := by decide +kernel
theorem dX5_init_171 : decode cX5_init 171 = .ok (.aload_n 0, 1) := by decide +kernel
theorem dX5_init_172 : decode cX5_init 172 = .ok (.getfield 44, 3) := by decide +kernel
theorem dX5_init_175 : decode cX5_init 175 = .ok (.iload_n 1, 1) := by decide +kernel
theorem dX5_init_176 : decode cX5_init 176 = .ok (.iconst (-1), 1) := by decide +kernel
theorem dX5_init_177 : decode cX5_init 177 = .ok (.iastore, 1) := by decide +kernel
theorem dX5_init_178 : decode cX5_init 178 = .ok (.iinc 1 1, 3) := by decide +kernel
theorem dX5_init_181 : decode cX5_init 181 = .ok (.goto (-15), 3) := by decide +kernel
theorem dX5_init_184 : decode cX5_init 184 = .ok (.return_, 1) := by decide +kernel
theorem dX5_in_0 : decode cX5_in 0 = .ok (.lload_n 0, 1) := by decide +kernel
theorem dX5_in_1 : decode cX5_in 1 = .ok (.lload_n 2, 1) := by decide +kernel
theorem dX5_in_2 : decode cX5_in 2 = .ok (.lcmp, 1) := by decide +kernel
theorem dX5_in_3 : decode cX5_in 3 = .ok (.ifCond .lt 14, 3) := by decide +kernel
theorem dX5_in_6 : decode cX5_in 6 = .ok (.lload_n 0, 1) := by decide +kernel
theorem dX5_in_7 : decode cX5_in 7 = .ok (.lload 4, 2) := by decide +kernel
theorem dX5_in_9 : decode cX5_in 9 = .ok (.lcmp, 1) := by decide +kernel
theorem dX5_in_10 : decode cX5_in 10 = .ok (.ifCond .gt 7, 3) := by decide +kernel
theorem dX5_in_13 : decode cX5_in 13 = .ok (.iconst 1, 1) := by decide +kernel
theorem dX5_in_14 : decode cX5_in 14 = .ok (.goto 4, 3) := by decide +kernel
theorem dX5_in_17 : decode cX5_in 17 = .ok (.iconst 0, 1) := by decide +kernel
theorem dX5_in_18 : decode cX5_in 18 = .ok (.ireturn, 1) := by decide +kernel
theorem dX5_has_0 : decode cX5_has 0 = .ok (.iload_n 0, 1) := by decide +kernel
theorem dX5_has_1 : decode cX5_has 1 = .ok (.iload_n 1, 1) := by decide +kernel
theorem dX5_has_2 : decode cX5_has 2 = .ok (.ishr, 1) := by decide +kernel
theorem dX5_has_3 : decode cX5_has 3 = .ok (.iconst 1, 1) := by decide +kernel
theorem dX5_has_4 : decode cX5_has 4 = .ok (.iand, 1) := by decide +kernel
theorem dX5_has_5 : decode cX5_has 5 = .ok (.iconst 1, 1) := by decide +kernel
theorem dX5_has_6 : decode cX5_has 6 = .ok (.if_icmp .ne 7, 3) := by decide +kernel
theorem dX5_has_9 : decode cX5_has 9 = .ok (.iconst 1, 1) := by decide +kernel
theorem dX5_has_10 : decode cX5_has 10 = .ok (.goto 4, 3) := by decide +kernel
theorem dX5_has_13 : decode cX5_has 13 = .ok (.iconst 0, 1) := by decide +kernel
theorem dX5_has_14 : decode cX5_has 14 = .ok (.ireturn, 1) := by decide +kernel
theorem dX5_bits_0 : decode cX5_bits 0 = .ok (.iconst 0, 1) := by decide +kernel
theorem dX5_bits_1 : decode cX5_bits 1 = .ok (.istore_n 1, 1) := by decide +kernel
theorem dX5_bits_2 : decode cX5_bits 2 = .ok (.iconst 0, 1) := by decide +kernel
theorem dX5_bits_3 : decode cX5_bits 3 = .ok (.istore_n 2, 1) := by decide +kernel
theorem dX5_bits_4 : decode cX5_bits 4 = .ok (.iload_n 2, 1) := by decide +kernel
theorem dX5_bits_5 : decode cX5_bits 5 = .ok (.bipush 10, 2) := by decide +kernel
theorem dX5_bits_7 : decode cX5_bits 7 = .ok (.if_icmp .ge 17, 3) := by decide +kernel
theorem dX5_bits_10 : decode cX5_bits 10 = .ok (.iload_n 1, 1) := by decide +kernel
theorem dX5_bits_11 : decode cX5_bits 11 = .ok (.iload_n 0, 1) := by decide +kernel
theorem dX5_bits_12 : decode cX5_bits 12 = .ok (.iload_n 2, 1) := by decide +kernel
theorem dX5_bits_13 : decode cX5_bits 13 = .ok (.ishr, 1) := by decide +kernel
theorem dX5_bits_14 : decode cX5_bits 14 = .ok (.iconst 1, 1) := by decide +kernel
theorem dX5_bits_15 : decode cX5_bits 15 = .ok (.iand, 1) := by decide +kernel
theorem dX5_bits_16 : decode cX5_bits 16 = .ok (.iadd, 1) := by decide +kernel
theorem dX5_bits_17 : decode cX5_bits 17 = .ok (.istore_n 1, 1) := by decide +kernel
theorem dX5_bits_18 : decode cX5_bits 18 = .ok (.iinc 2 1, 3) := by decide +kernel
theorem dX5_bits_21 : decode cX5_bits 21 = .ok (.goto (-17), 3) := by decide +kernel
theorem dX5_bits_24 : decode cX5_bits 24 = .ok (.iload_n 1, 1) := by decide +kernel
theorem dX5_bits_25 : decode cX5_bits 25 = .ok (.ireturn, 1) := by decide +kernel
theorem dX5_smaller_0 : decode cX5_smaller 0 = .ok (.iload_n 0, 1) := by decide +kernel
theorem dX5_smaller_1 : decode cX5_smaller 1 = .ok (.iload_n 1, 1) := by decide +kernel
theorem dX5_smaller_2 : decode cX5_smaller 2 = .ok (.if_icmp .ge 7, 3) := by decide +kernel
theorem dX5_smaller_5 : decode cX5_smaller 5 = .ok (.iload_n 0, 1) := by decide +kernel
theorem dX5_smaller_6 : decode cX5_smaller 6 = .ok (.goto 4, 3) := by decide +kernel
theorem dX5_smaller_9 : decode cX5_smaller 9 = .ok (.iload_n 1, 1) := by decide +kernel
theorem dX5_smaller_10 : decode cX5_smaller 10 = .ok (.ireturn, 1) := by decide +kernel
theorem dX5_larger_0 : decode cX5_larger 0 = .ok (.iload_n 0, 1) := by decide +kernel
theorem dX5_larger_1 : decode cX5_larger 1 = .ok (.iload_n 1, 1) := by decide +kernel
theorem dX5_larger_2 : decode cX5_larger 2 = .ok (.if_icmp .ge 7, 3) := by decide +kernel
theorem dX5_larger_5 : decode cX5_larger 5 = .ok (.iload_n 1, 1) := by decide +kernel
theorem dX5_larger_6 : decode cX5_larger 6 = .ok (.goto 4, 3) := by decide +kernel
theorem dX5_larger_9 : decode cX5_larger 9 = .ok (.iload_n 0, 1) := by decide +kernel
theorem dX5_larger_10 : decode cX5_larger 10 = .ok (.ireturn, 1) := by decide +kernel
theorem dX5_finds_0 : decode cX5_finds 0 = .ok (.aload_n 0, 1) := by decide +kernel
theorem dX5_finds_1 : decode cX5_finds 1 = .ok (.iload_n 1, 1) := by decide +kernel
theorem dX5_finds_2 : decode cX5_finds 2 = .ok (.putfield 57, 3) := by decide +kernel
theorem dX5_finds_5 : decode cX5_finds 5 = .ok (.aload_n 0, 1) := by decide +kernel
theorem dX5_finds_6 : decode cX5_finds 6 = .ok (.getfield 51, 3) := by decide +kernel
theorem dX5_finds_9 : decode cX5_finds 9 = .ok (.iload_n 1, 1) := by decide +kernel
theorem dX5_finds_10 : decode cX5_finds 10 = .ok (.dup2, 1) := by decide +kernel
theorem dX5_finds_11 : decode cX5_finds 11 = .ok (.iaload, 1) := by decide +kernel
theorem dX5_finds_12 : decode cX5_finds 12 = .ok (.iconst 1, 1) := by decide +kernel
theorem dX5_finds_13 : decode cX5_finds 13 = .ok (.iadd, 1) := by decide +kernel
theorem dX5_finds_14 : decode cX5_finds 14 = .ok (.iastore, 1) := by decide +kernel
theorem dX5_finds_15 : decode cX5_finds 15 = .ok (.bipush (-3), 2) := by decide +kernel
theorem dX5_finds_17 : decode cX5_finds 17 = .ok (.ireturn, 1) := by decide +kernel
theorem dX5_row_0 : decode cX5_row 0 = .ok (.iload_n 1, 1) := by decide +kernel
theorem dX5_row_1 : decode cX5_row 1 = .ok (.i2l, 1) := by decide +kernel
theorem dX5_row_2 : decode cX5_row 2 = .ok (.lconst 0, 1) := by decide +kernel
theorem dX5_row_3 : decode cX5_row 3 = .ok (.ldc2_w 61, 3) := by decide +kernel
theorem dX5_row_6 : decode cX5_row 6 = .ok (.invokestatic 63, 3) := by decide +kernel
theorem dX5_row_9 : decode cX5_row 9 = .ok (.ifCond .eq 9, 3) := by decide +kernel
theorem dX5_row_12 : decode cX5_row 12 = .ok (.iload_n 2, 1) := by decide +kernel
theorem dX5_row_13 : decode cX5_row 13 = .ok (.bipush 40, 2) := by decide +kernel
theorem dX5_row_15 : decode cX5_row 15 = .ok (.if_icmp .le 5, 3) := by decide +kernel
theorem dX5_row_18 : decode cX5_row 18 = .ok (.iconst (-1), 1) := by decide +kernel
theorem dX5_row_19 : decode cX5_row 19 = .ok (.ireturn, 1) := by decide +kernel
theorem dX5_row_20 : decode cX5_row 20 = .ok (.iload_n 2, 1) := by decide +kernel
theorem dX5_row_21 : decode cX5_row 21 = .ok (.ifCond .ge 9, 3) := by decide +kernel
theorem dX5_row_24 : decode cX5_row 24 = .ok (.aload_n 0, 1) := by decide +kernel
theorem dX5_row_25 : decode cX5_row 25 = .ok (.iconst 5, 1) := by decide +kernel
theorem dX5_row_26 : decode cX5_row 26 = .ok (.invokevirtual 67, 3) := by decide +kernel
theorem dX5_row_29 : decode cX5_row 29 = .ok (.ireturn, 1) := by decide +kernel
theorem dX5_row_30 : decode cX5_row 30 = .ok (.aload_n 0, 1) := by decide +kernel
theorem dX5_row_31 : decode cX5_row 31 = .ok (.iload_n 1, 1) := by decide +kernel
theorem dX5_row_32 : decode cX5_row 32 = .ok (.iload_n 2, 1) := by decide +kernel
theorem dX5_row_33 : decode cX5_row 33 = .ok (.invokevirtual 71, 3) := by decide +kernel
theorem dX5_row_36 : decode cX5_row 36 = .ok (.iload_n 2, 1) := by decide +kernel
theorem dX5_row_37 : decode cX5_row 37 = .ok (.ireturn, 1) := by decide +kernel
theorem dX5_begins_0 : decode cX5_begins 0 = .ok (.aload_n 0, 1) := by decide +kernel
theorem dX5_begins_1 : decode cX5_begins 1 = .ok (.getfield 7, 3) := by decide +kernel
theorem dX5_begins_4 : decode cX5_begins 4 = .ok (.iload_n 1, 1) := by decide +kernel
theorem dX5_begins_5 : decode cX5_begins 5 = .ok (.iload_n 2, 1) := by decide +kernel
theorem dX5_begins_6 : decode cX5_begins 6 = .ok (.iastore, 1) := by decide +kernel
theorem dX5_begins_7 : decode cX5_begins 7 = .ok (.iconst 0, 1) := by decide +kernel
theorem dX5_begins_8 : decode cX5_begins 8 = .ok (.istore_n 3, 1) := by decide +kernel
theorem dX5_begins_9 : decode cX5_begins 9 = .ok (.iload_n 3, 1) := by decide +kernel
theorem dX5_begins_10 : decode cX5_begins 10 = .ok (.bipush 40, 2) := by decide +kernel
theorem dX5_begins_12 : decode cX5_begins 12 = .ok (.if_icmp .ge 21, 3) := by decide +kernel
theorem dX5_begins_15 : decode cX5_begins 15 = .ok (.aload_n 0, 1) := by decide +kernel
theorem dX5_begins_16 : decode cX5_begins 16 = .ok (.getfield 13, 3) := by decide +kernel
theorem dX5_begins_19 : decode cX5_begins 19 = .ok (.bipush 40, 2) := by decide +kernel
theorem dX5_begins_21 : decode cX5_begins 21 = .ok (.iload_n 1, 1) := by decide +kernel
theorem dX5_begins_22 : decode cX5_begins 22 = .ok (.imul, 1) := by decide +kernel
theorem dX5_begins_23 : decode cX5_begins 23 = .ok (.iload_n 3, 1) := by decide +kernel
theorem dX5_begins_24 : decode cX5_begins 24 = .ok (.iadd, 1) := by decide +kernel
theorem dX5_begins_25 : decode cX5_begins 25 = .ok (.iconst 0, 1) := by decide +kernel
theorem dX5_begins_26 : decode cX5_begins 26 = .ok (.iastore, 1) := by decide +kernel
theorem dX5_begins_27 : decode cX5_begins 27 = .ok (.iinc 3 1, 3) := by decide +kernel
theorem dX5_begins_30 : decode cX5_begins 30 = .ok (.goto (-21), 3) := by decide +kernel
theorem dX5_begins_33 : decode cX5_begins 33 = .ok (.return_, 1) := by decide +kernel
theorem dX5_lay_0 : decode cX5_lay 0 = .ok (.iload_n 1, 1) := by decide +kernel
theorem dX5_lay_1 : decode cX5_lay 1 = .ok (.i2l, 1) := by decide +kernel
theorem dX5_lay_2 : decode cX5_lay 2 = .ok (.lconst 0, 1) := by decide +kernel
theorem dX5_lay_3 : decode cX5_lay 3 = .ok (.ldc2_w 61, 3) := by decide +kernel
theorem dX5_lay_6 : decode cX5_lay 6 = .ok (.invokestatic 63, 3) := by decide +kernel
theorem dX5_lay_9 : decode cX5_lay 9 = .ok (.ifCond .ne 5, 3) := by decide +kernel
theorem dX5_lay_12 : decode cX5_lay 12 = .ok (.iconst (-1), 1) := by decide +kernel
theorem dX5_lay_13 : decode cX5_lay 13 = .ok (.ireturn, 1) := by decide +kernel
theorem dX5_lay_14 : decode cX5_lay 14 = .ok (.aload_n 0, 1) := by decide +kernel
theorem dX5_lay_15 : decode cX5_lay 15 = .ok (.getfield 7, 3) := by decide +kernel
theorem dX5_lay_18 : decode cX5_lay 18 = .ok (.iload_n 1, 1) := by decide +kernel
theorem dX5_lay_19 : decode cX5_lay 19 = .ok (.iaload, 1) := by decide +kernel
theorem dX5_lay_20 : decode cX5_lay 20 = .ok (.ifCond .ge 9, 3) := by decide +kernel
theorem dX5_lay_23 : decode cX5_lay 23 = .ok (.aload_n 0, 1) := by decide +kernel
theorem dX5_lay_24 : decode cX5_lay 24 = .ok (.iconst 1, 1) := by decide +kernel
theorem dX5_lay_25 : decode cX5_lay 25 = .ok (.invokevirtual 67, 3) := by decide +kernel
theorem dX5_lay_28 : decode cX5_lay 28 = .ok (.ireturn, 1) := by decide +kernel
theorem dX5_lay_29 : decode cX5_lay 29 = .ok (.iload_n 2, 1) := by decide +kernel
theorem dX5_lay_30 : decode cX5_lay 30 = .ok (.i2l, 1) := by decide +kernel
theorem dX5_lay_31 : decode cX5_lay 31 = .ok (.lconst 0, 1) := by decide +kernel
theorem dX5_lay_32 : decode cX5_lay 32 = .ok (.aload_n 0, 1) := by decide +kernel
theorem dX5_lay_33 : decode cX5_lay 33 = .ok (.getfield 7, 3) := by decide +kernel
theorem dX5_lay_36 : decode cX5_lay 36 = .ok (.iload_n 1, 1) := by decide +kernel
theorem dX5_lay_37 : decode cX5_lay 37 = .ok (.iaload, 1) := by decide +kernel
theorem dX5_lay_38 : decode cX5_lay 38 = .ok (.iconst 1, 1) := by decide +kernel
theorem dX5_lay_39 : decode cX5_lay 39 = .ok (.isub, 1) := by decide +kernel
theorem dX5_lay_40 : decode cX5_lay 40 = .ok (.i2l, 1) := by decide +kernel
theorem dX5_lay_41 : decode cX5_lay 41 = .ok (.invokestatic 63, 3) := by decide +kernel
theorem dX5_lay_44 : decode cX5_lay 44 = .ok (.ifCond .ne 9, 3) := by decide +kernel
theorem dX5_lay_47 : decode cX5_lay 47 = .ok (.aload_n 0, 1) := by decide +kernel
theorem dX5_lay_48 : decode cX5_lay 48 = .ok (.iconst 2, 1) := by decide +kernel
theorem dX5_lay_49 : decode cX5_lay 49 = .ok (.invokevirtual 67, 3) := by decide +kernel
theorem dX5_lay_52 : decode cX5_lay 52 = .ok (.ireturn, 1) := by decide +kernel
theorem dX5_lay_53 : decode cX5_lay 53 = .ok (.aload_n 0, 1) := by decide +kernel
theorem dX5_lay_54 : decode cX5_lay 54 = .ok (.aload_n 0, 1) := by decide +kernel
theorem dX5_lay_55 : decode cX5_lay 55 = .ok (.getfield 13, 3) := by decide +kernel
theorem dX5_lay_58 : decode cX5_lay 58 = .ok (.bipush 40, 2) := by decide +kernel
theorem dX5_lay_60 : decode cX5_lay 60 = .ok (.iload_n 1, 1) := by decide +kernel
theorem dX5_lay_61 : decode cX5_lay 61 = .ok (.imul, 1) := by decide +kernel
theorem dX5_lay_62 : decode cX5_lay 62 = .ok (.iload_n 2, 1) := by decide +kernel
theorem dX5_lay_63 : decode cX5_lay 63 = .ok (.iadd, 1) := by decide +kernel
theorem dX5_lay_64 : decode cX5_lay 64 = .ok (.iaload, 1) := by decide +kernel
theorem dX5_lay_65 : decode cX5_lay 65 = .ok (.putfield 75, 3) := by decide +kernel
theorem dX5_lay_68 : decode cX5_lay 68 = .ok (.aload_n 0, 1) := by decide +kernel
theorem dX5_lay_69 : decode cX5_lay 69 = .ok (.getfield 13, 3) := by decide +kernel
theorem dX5_lay_72 : decode cX5_lay 72 = .ok (.bipush 40, 2) := by decide +kernel
theorem dX5_lay_74 : decode cX5_lay 74 = .ok (.iload_n 1, 1) := by decide +kernel
theorem dX5_lay_75 : decode cX5_lay 75 = .ok (.imul, 1) := by decide +kernel
theorem dX5_lay_76 : decode cX5_lay 76 = .ok (.iload_n 2, 1) := by decide +kernel
theorem dX5_lay_77 : decode cX5_lay 77 = .ok (.iadd, 1) := by decide +kernel
theorem dX5_lay_78 : decode cX5_lay 78 = .ok (.iload_n 3, 1) := by decide +kernel
theorem dX5_lay_79 : decode cX5_lay 79 = .ok (.iastore, 1) := by decide +kernel
theorem dX5_lay_80 : decode cX5_lay 80 = .ok (.iconst 1, 1) := by decide +kernel
theorem dX5_lay_81 : decode cX5_lay 81 = .ok (.ireturn, 1) := by decide +kernel
theorem dX5_at_0 : decode cX5_at 0 = .ok (.iload_n 1, 1) := by decide +kernel
theorem dX5_at_1 : decode cX5_at 1 = .ok (.i2l, 1) := by decide +kernel
theorem dX5_at_2 : decode cX5_at 2 = .ok (.lconst 0, 1) := by decide +kernel
theorem dX5_at_3 : decode cX5_at 3 = .ok (.ldc2_w 61, 3) := by decide +kernel
theorem dX5_at_6 : decode cX5_at 6 = .ok (.invokestatic 63, 3) := by decide +kernel
theorem dX5_at_9 : decode cX5_at 9 = .ok (.ifCond .ne 5, 3) := by decide +kernel
theorem dX5_at_12 : decode cX5_at 12 = .ok (.iconst (-1), 1) := by decide +kernel
theorem dX5_at_13 : decode cX5_at 13 = .ok (.ireturn, 1) := by decide +kernel
theorem dX5_at_14 : decode cX5_at 14 = .ok (.aload_n 0, 1) := by decide +kernel
theorem dX5_at_15 : decode cX5_at 15 = .ok (.getfield 7, 3) := by decide +kernel
theorem dX5_at_18 : decode cX5_at 18 = .ok (.iload_n 1, 1) := by decide +kernel
theorem dX5_at_19 : decode cX5_at 19 = .ok (.iaload, 1) := by decide +kernel
theorem dX5_at_20 : decode cX5_at 20 = .ok (.ifCond .ge 9, 3) := by decide +kernel
theorem dX5_at_23 : decode cX5_at 23 = .ok (.aload_n 0, 1) := by decide +kernel
theorem dX5_at_24 : decode cX5_at 24 = .ok (.iconst 1, 1) := by decide +kernel
theorem dX5_at_25 : decode cX5_at 25 = .ok (.invokevirtual 67, 3) := by decide +kernel
theorem dX5_at_28 : decode cX5_at 28 = .ok (.ireturn, 1) := by decide +kernel
theorem dX5_at_29 : decode cX5_at 29 = .ok (.iload_n 2, 1) := by decide +kernel
theorem dX5_at_30 : decode cX5_at 30 = .ok (.i2l, 1) := by decide +kernel
theorem dX5_at_31 : decode cX5_at 31 = .ok (.lconst 0, 1) := by decide +kernel
theorem dX5_at_32 : decode cX5_at 32 = .ok (.aload_n 0, 1) := by decide +kernel
theorem dX5_at_33 : decode cX5_at 33 = .ok (.getfield 7, 3) := by decide +kernel
theorem dX5_at_36 : decode cX5_at 36 = .ok (.iload_n 1, 1) := by decide +kernel
theorem dX5_at_37 : decode cX5_at 37 = .ok (.iaload, 1) := by decide +kernel
theorem dX5_at_38 : decode cX5_at 38 = .ok (.iconst 1, 1) := by decide +kernel
theorem dX5_at_39 : decode cX5_at 39 = .ok (.isub, 1) := by decide +kernel
theorem dX5_at_40 : decode cX5_at 40 = .ok (.i2l, 1) := by decide +kernel
theorem dX5_at_41 : decode cX5_at 41 = .ok (.invokestatic 63, 3) := by decide +kernel
theorem dX5_at_44 : decode cX5_at 44 = .ok (.ifCond .ne 9, 3) := by decide +kernel
theorem dX5_at_47 : decode cX5_at 47 = .ok (.aload_n 0, 1) := by decide +kernel
theorem dX5_at_48 : decode cX5_at 48 = .ok (.iconst 2, 1) := by decide +kernel
theorem dX5_at_49 : decode cX5_at 49 = .ok (.invokevirtual 67, 3) := by decide +kernel
theorem dX5_at_52 : decode cX5_at 52 = .ok (.ireturn, 1) := by decide +kernel
theorem dX5_at_53 : decode cX5_at 53 = .ok (.aload_n 0, 1) := by decide +kernel
theorem dX5_at_54 : decode cX5_at 54 = .ok (.aload_n 0, 1) := by decide +kernel
theorem dX5_at_55 : decode cX5_at 55 = .ok (.getfield 13, 3) := by decide +kernel
theorem dX5_at_58 : decode cX5_at 58 = .ok (.bipush 40, 2) := by decide +kernel
theorem dX5_at_60 : decode cX5_at 60 = .ok (.iload_n 1, 1) := by decide +kernel
theorem dX5_at_61 : decode cX5_at 61 = .ok (.imul, 1) := by decide +kernel
theorem dX5_at_62 : decode cX5_at 62 = .ok (.iload_n 2, 1) := by decide +kernel
theorem dX5_at_63 : decode cX5_at 63 = .ok (.iadd, 1) := by decide +kernel
theorem dX5_at_64 : decode cX5_at 64 = .ok (.iaload, 1) := by decide +kernel
theorem dX5_at_65 : decode cX5_at 65 = .ok (.putfield 75, 3) := by decide +kernel
theorem dX5_at_68 : decode cX5_at 68 = .ok (.iconst 1, 1) := by decide +kernel
theorem dX5_at_69 : decode cX5_at 69 = .ok (.ireturn, 1) := by decide +kernel
theorem dX5_tear_0 : decode cX5_tear 0 = .ok (.iload_n 1, 1) := by decide +kernel
theorem dX5_tear_1 : decode cX5_tear 1 = .ok (.i2l, 1) := by decide +kernel
theorem dX5_tear_2 : decode cX5_tear 2 = .ok (.lconst 0, 1) := by decide +kernel
theorem dX5_tear_3 : decode cX5_tear 3 = .ok (.ldc2_w 61, 3) := by decide +kernel
theorem dX5_tear_6 : decode cX5_tear 6 = .ok (.invokestatic 63, 3) := by decide +kernel
theorem dX5_tear_9 : decode cX5_tear 9 = .ok (.ifCond .ne 5, 3) := by decide +kernel
theorem dX5_tear_12 : decode cX5_tear 12 = .ok (.iconst (-1), 1) := by decide +kernel
theorem dX5_tear_13 : decode cX5_tear 13 = .ok (.ireturn, 1) := by decide +kernel
theorem dX5_tear_14 : decode cX5_tear 14 = .ok (.aload_n 0, 1) := by decide +kernel
theorem dX5_tear_15 : decode cX5_tear 15 = .ok (.getfield 7, 3) := by decide +kernel
theorem dX5_tear_18 : decode cX5_tear 18 = .ok (.iload_n 1, 1) := by decide +kernel
theorem dX5_tear_19 : decode cX5_tear 19 = .ok (.iaload, 1) := by decide +kernel
theorem dX5_tear_20 : decode cX5_tear 20 = .ok (.ifCond .ge 9, 3) := by decide +kernel
theorem dX5_tear_23 : decode cX5_tear 23 = .ok (.aload_n 0, 1) := by decide +kernel
theorem dX5_tear_24 : decode cX5_tear 24 = .ok (.iconst 1, 1) := by decide +kernel
theorem dX5_tear_25 : decode cX5_tear 25 = .ok (.invokevirtual 67, 3) := by decide +kernel
theorem dX5_tear_28 : decode cX5_tear 28 = .ok (.ireturn, 1) := by decide +kernel
theorem dX5_tear_29 : decode cX5_tear 29 = .ok (.aload_n 0, 1) := by decide +kernel
theorem dX5_tear_30 : decode cX5_tear 30 = .ok (.getfield 7, 3) := by decide +kernel
theorem dX5_tear_33 : decode cX5_tear 33 = .ok (.iload_n 1, 1) := by decide +kernel
theorem dX5_tear_34 : decode cX5_tear 34 = .ok (.iconst (-1), 1) := by decide +kernel
theorem dX5_tear_35 : decode cX5_tear 35 = .ok (.iastore, 1) := by decide +kernel
theorem dX5_tear_36 : decode cX5_tear 36 = .ok (.iconst 1, 1) := by decide +kernel
theorem dX5_tear_37 : decode cX5_tear 37 = .ok (.ireturn, 1) := by decide +kernel
theorem dX5_copy_0 : decode cX5_copy 0 = .ok (.iload_n 1, 1) := by decide +kernel
theorem dX5_copy_1 : decode cX5_copy 1 = .ok (.i2l, 1) := by decide +kernel
theorem dX5_copy_2 : decode cX5_copy 2 = .ok (.lconst 0, 1) := by decide +kernel
theorem dX5_copy_3 : decode cX5_copy 3 = .ok (.ldc2_w 61, 3) := by decide +kernel
theorem dX5_copy_6 : decode cX5_copy 6 = .ok (.invokestatic 63, 3) := by decide +kernel
theorem dX5_copy_9 : decode cX5_copy 9 = .ok (.ifCond .eq 15, 3) := by decide +kernel
theorem dX5_copy_12 : decode cX5_copy 12 = .ok (.iload_n 3, 1) := by decide +kernel
theorem dX5_copy_13 : decode cX5_copy 13 = .ok (.i2l, 1) := by decide +kernel
theorem dX5_copy_14 : decode cX5_copy 14 = .ok (.lconst 0, 1) := by decide +kernel
theorem dX5_copy_15 : decode cX5_copy 15 = .ok (.ldc2_w 61, 3) := by decide +kernel
theorem dX5_copy_18 : decode cX5_copy 18 = .ok (.invokestatic 63, 3) := by decide +kernel
theorem dX5_copy_21 : decode cX5_copy 21 = .ok (.ifCond .ne 5, 3) := by decide +kernel
theorem dX5_copy_24 : decode cX5_copy 24 = .ok (.iconst (-1), 1) := by decide +kernel
theorem dX5_copy_25 : decode cX5_copy 25 = .ok (.ireturn, 1) := by decide +kernel
theorem dX5_copy_26 : decode cX5_copy 26 = .ok (.iload 5, 2) := by decide +kernel
theorem dX5_copy_28 : decode cX5_copy 28 = .ok (.ifCond .ge 9, 3) := by decide +kernel
theorem dX5_copy_31 : decode cX5_copy 31 = .ok (.aload_n 0, 1) := by decide +kernel
theorem dX5_copy_32 : decode cX5_copy 32 = .ok (.iconst 5, 1) := by decide +kernel
theorem dX5_copy_33 : decode cX5_copy 33 = .ok (.invokevirtual 67, 3) := by decide +kernel
theorem dX5_copy_36 : decode cX5_copy 36 = .ok (.ireturn, 1) := by decide +kernel
theorem dX5_copy_37 : decode cX5_copy 37 = .ok (.aload_n 0, 1) := by decide +kernel
theorem dX5_copy_38 : decode cX5_copy 38 = .ok (.getfield 7, 3) := by decide +kernel
theorem dX5_copy_41 : decode cX5_copy 41 = .ok (.iload_n 1, 1) := by decide +kernel
theorem dX5_copy_42 : decode cX5_copy 42 = .ok (.iaload, 1) := by decide +kernel
theorem dX5_copy_43 : decode cX5_copy 43 = .ok (.ifCond .lt 12, 3) := by decide +kernel
theorem dX5_copy_46 : decode cX5_copy 46 = .ok (.aload_n 0, 1) := by decide +kernel
theorem dX5_copy_47 : decode cX5_copy 47 = .ok (.getfield 7, 3) := by decide +kernel
theorem dX5_copy_50 : decode cX5_copy 50 = .ok (.iload_n 3, 1) := by decide +kernel
theorem dX5_copy_51 : decode cX5_copy 51 = .ok (.iaload, 1) := by decide +kernel
theorem dX5_copy_52 : decode cX5_copy 52 = .ok (.ifCond .ge 9, 3) := by decide +kernel
theorem dX5_copy_55 : decode cX5_copy 55 = .ok (.aload_n 0, 1) := by decide +kernel
theorem dX5_copy_56 : decode cX5_copy 56 = .ok (.iconst 1, 1) := by decide +kernel
theorem dX5_copy_57 : decode cX5_copy 57 = .ok (.invokevirtual 67, 3) := by decide +kernel
theorem dX5_copy_60 : decode cX5_copy 60 = .ok (.ireturn, 1) := by decide +kernel
theorem dX5_copy_61 : decode cX5_copy 61 = .ok (.iload_n 2, 1) := by decide +kernel
theorem dX5_copy_62 : decode cX5_copy 62 = .ok (.ifCond .lt 43, 3) := by decide +kernel
theorem dX5_copy_65 : decode cX5_copy 65 = .ok (.iload 4, 2) := by decide +kernel
theorem dX5_copy_67 : decode cX5_copy 67 = .ok (.ifCond .lt 38, 3) := by decide +kernel
theorem dX5_copy_70 : decode cX5_copy 70 = .ok (.iload_n 2, 1) := by decide +kernel
theorem dX5_copy_71 : decode cX5_copy 71 = .ok (.i2l, 1) := by decide +kernel
theorem dX5_copy_72 : decode cX5_copy 72 = .ok (.iload 5, 2) := by decide +kernel
theorem dX5_copy_74 : decode cX5_copy 74 = .ok (.i2l, 1) := by decide +kernel
theorem dX5_copy_75 : decode cX5_copy 75 = .ok (.ladd, 1) := by decide +kernel
theorem dX5_copy_76 : decode cX5_copy 76 = .ok (.aload_n 0, 1) := by decide +kernel
theorem dX5_copy_77 : decode cX5_copy 77 = .ok (.getfield 7, 3) := by decide +kernel
theorem dX5_copy_80 : decode cX5_copy 80 = .ok (.iload_n 1, 1) := by decide +kernel
theorem dX5_copy_81 : decode cX5_copy 81 = .ok (.iaload, 1) := by decide +kernel
theorem dX5_copy_82 : decode cX5_copy 82 = .ok (.i2l, 1) := by decide +kernel
theorem dX5_copy_83 : decode cX5_copy 83 = .ok (.lcmp, 1) := by decide +kernel
theorem dX5_copy_84 : decode cX5_copy 84 = .ok (.ifCond .gt 21, 3) := by decide +kernel
theorem dX5_copy_87 : decode cX5_copy 87 = .ok (.iload 4, 2) := by decide +kernel
theorem dX5_copy_89 : decode cX5_copy 89 = .ok (.i2l, 1) := by decide +kernel
theorem dX5_copy_90 : decode cX5_copy 90 = .ok (.iload 5, 2) := by decide +kernel
theorem dX5_copy_92 : decode cX5_copy 92 = .ok (.i2l, 1) := by decide +kernel
theorem dX5_copy_93 : decode cX5_copy 93 = .ok (.ladd, 1) := by decide +kernel
theorem dX5_copy_94 : decode cX5_copy 94 = .ok (.aload_n 0, 1) := by decide +kernel
theorem dX5_copy_95 : decode cX5_copy 95 = .ok (.getfield 7, 3) := by decide +kernel
theorem dX5_copy_98 : decode cX5_copy 98 = .ok (.iload_n 3, 1) := by decide +kernel
theorem dX5_copy_99 : decode cX5_copy 99 = .ok (.iaload, 1) := by decide +kernel
theorem dX5_copy_100 : decode cX5_copy 100 = .ok (.i2l, 1) := by decide +kernel
theorem dX5_copy_101 : decode cX5_copy 101 = .ok (.lcmp, 1) := by decide +kernel
theorem dX5_copy_102 : decode cX5_copy 102 = .ok (.ifCond .le 9, 3) := by decide +kernel
theorem dX5_copy_105 : decode cX5_copy 105 = .ok (.aload_n 0, 1) := by decide +kernel
theorem dX5_copy_106 : decode cX5_copy 106 = .ok (.iconst 2, 1) := by decide +kernel
theorem dX5_copy_107 : decode cX5_copy 107 = .ok (.invokevirtual 67, 3) := by decide +kernel
theorem dX5_copy_110 : decode cX5_copy 110 = .ok (.ireturn, 1) := by decide +kernel
theorem dX5_copy_111 : decode cX5_copy 111 = .ok (.iconst 0, 1) := by decide +kernel
theorem dX5_copy_112 : decode cX5_copy 112 = .ok (.istore 6, 2) := by decide +kernel
theorem dX5_copy_114 : decode cX5_copy 114 = .ok (.iload 6, 2) := by decide +kernel
theorem dX5_copy_116 : decode cX5_copy 116 = .ok (.iload 5, 2) := by decide +kernel
theorem dX5_copy_118 : decode cX5_copy 118 = .ok (.if_icmp .ge 58, 3) := by decide +kernel
theorem dX5_copy_121 : decode cX5_copy 121 = .ok (.iload 4, 2) := by decide +kernel
theorem dX5_copy_123 : decode cX5_copy 123 = .ok (.iload_n 2, 1) := by decide +kernel
theorem dX5_copy_124 : decode cX5_copy 124 = .ok (.if_icmp .le 13, 3) := by decide +kernel
theorem dX5_copy_127 : decode cX5_copy 127 = .ok (.iload 5, 2) := by decide +kernel
theorem dX5_copy_129 : decode cX5_copy 129 = .ok (.iconst 1, 1) := by decide +kernel
theorem dX5_copy_130 : decode cX5_copy 130 = .ok (.isub, 1) := by decide +kernel
theorem dX5_copy_131 : decode cX5_copy 131 = .ok (.iload 6, 2) := by decide +kernel
theorem dX5_copy_133 : decode cX5_copy 133 = .ok (.isub, 1) := by decide +kernel
theorem dX5_copy_134 : decode cX5_copy 134 = .ok (.goto 5, 3) := by decide +kernel
theorem dX5_copy_137 : decode cX5_copy 137 = .ok (.iload 6, 2) := by decide +kernel
theorem dX5_copy_139 : decode cX5_copy 139 = .ok (.istore 7, 2) := by decide +kernel
theorem dX5_copy_141 : decode cX5_copy 141 = .ok (.aload_n 0, 1) := by decide +kernel
theorem dX5_copy_142 : decode cX5_copy 142 = .ok (.getfield 13, 3) := by decide +kernel
theorem dX5_copy_145 : decode cX5_copy 145 = .ok (.bipush 40, 2) := by decide +kernel
theorem dX5_copy_147 : decode cX5_copy 147 = .ok (.iload_n 3, 1) := by decide +kernel
theorem dX5_copy_148 : decode cX5_copy 148 = .ok (.imul, 1) := by decide +kernel
theorem dX5_copy_149 : decode cX5_copy 149 = .ok (.iload 4, 2) := by decide +kernel
theorem dX5_copy_151 : decode cX5_copy 151 = .ok (.iadd, 1) := by decide +kernel
theorem dX5_copy_152 : decode cX5_copy 152 = .ok (.iload 7, 2) := by decide +kernel
theorem dX5_copy_154 : decode cX5_copy 154 = .ok (.iadd, 1) := by decide +kernel
theorem dX5_copy_155 : decode cX5_copy 155 = .ok (.aload_n 0, 1) := by decide +kernel
theorem dX5_copy_156 : decode cX5_copy 156 = .ok (.getfield 13, 3) := by decide +kernel
theorem dX5_copy_159 : decode cX5_copy 159 = .ok (.bipush 40, 2) := by decide +kernel
theorem dX5_copy_161 : decode cX5_copy 161 = .ok (.iload_n 1, 1) := by decide +kernel
theorem dX5_copy_162 : decode cX5_copy 162 = .ok (.imul, 1) := by decide +kernel
theorem dX5_copy_163 : decode cX5_copy 163 = .ok (.iload_n 2, 1) := by decide +kernel
theorem dX5_copy_164 : decode cX5_copy 164 = .ok (.iadd, 1) := by decide +kernel
theorem dX5_copy_165 : decode cX5_copy 165 = .ok (.iload 7, 2) := by decide +kernel
theorem dX5_copy_167 : decode cX5_copy 167 = .ok (.iadd, 1) := by decide +kernel
theorem dX5_copy_168 : decode cX5_copy 168 = .ok (.iaload, 1) := by decide +kernel
theorem dX5_copy_169 : decode cX5_copy 169 = .ok (.iastore, 1) := by decide +kernel
theorem dX5_copy_170 : decode cX5_copy 170 = .ok (.iinc 6 1, 3) := by decide +kernel
theorem dX5_copy_173 : decode cX5_copy 173 = .ok (.goto (-59), 3) := by decide +kernel
theorem dX5_copy_176 : decode cX5_copy 176 = .ok (.iconst 1, 1) := by decide +kernel
theorem dX5_copy_177 : decode cX5_copy 177 = .ok (.ireturn, 1) := by decide +kernel
theorem dX5_mean_0 : decode cX5_mean 0 = .ok (.iload_n 1, 1) := by decide +kernel
theorem dX5_mean_1 : decode cX5_mean 1 = .ok (.i2l, 1) := by decide +kernel
theorem dX5_mean_2 : decode cX5_mean 2 = .ok (.lconst 0, 1) := by decide +kernel
theorem dX5_mean_3 : decode cX5_mean 3 = .ok (.ldc2_w 61, 3) := by decide +kernel
theorem dX5_mean_6 : decode cX5_mean 6 = .ok (.invokestatic 63, 3) := by decide +kernel
theorem dX5_mean_9 : decode cX5_mean 9 = .ok (.ifCond .ne 5, 3) := by decide +kernel
theorem dX5_mean_12 : decode cX5_mean 12 = .ok (.iconst (-1), 1) := by decide +kernel
theorem dX5_mean_13 : decode cX5_mean 13 = .ok (.ireturn, 1) := by decide +kernel
theorem dX5_mean_14 : decode cX5_mean 14 = .ok (.aload_n 0, 1) := by decide +kernel
theorem dX5_mean_15 : decode cX5_mean 15 = .ok (.getfield 7, 3) := by decide +kernel
theorem dX5_mean_18 : decode cX5_mean 18 = .ok (.iload_n 1, 1) := by decide +kernel
theorem dX5_mean_19 : decode cX5_mean 19 = .ok (.iaload, 1) := by decide +kernel
theorem dX5_mean_20 : decode cX5_mean 20 = .ok (.ifCond .ge 9, 3) := by decide +kernel
theorem dX5_mean_23 : decode cX5_mean 23 = .ok (.aload_n 0, 1) := by decide +kernel
theorem dX5_mean_24 : decode cX5_mean 24 = .ok (.iconst 1, 1) := by decide +kernel
theorem dX5_mean_25 : decode cX5_mean 25 = .ok (.invokevirtual 67, 3) := by decide +kernel
theorem dX5_mean_28 : decode cX5_mean 28 = .ok (.ireturn, 1) := by decide +kernel
theorem dX5_mean_29 : decode cX5_mean 29 = .ok (.aload_n 0, 1) := by decide +kernel
theorem dX5_mean_30 : decode cX5_mean 30 = .ok (.getfield 7, 3) := by decide +kernel
theorem dX5_mean_33 : decode cX5_mean 33 = .ok (.iload_n 1, 1) := by decide +kernel
theorem dX5_mean_34 : decode cX5_mean 34 = .ok (.iaload, 1) := by decide +kernel
theorem dX5_mean_35 : decode cX5_mean 35 = .ok (.ifCond .ne 9, 3) := by decide +kernel
theorem dX5_mean_38 : decode cX5_mean 38 = .ok (.aload_n 0, 1) := by decide +kernel
theorem dX5_mean_39 : decode cX5_mean 39 = .ok (.iconst 4, 1) := by decide +kernel
theorem dX5_mean_40 : decode cX5_mean 40 = .ok (.invokevirtual 67, 3) := by decide +kernel
theorem dX5_mean_43 : decode cX5_mean 43 = .ok (.ireturn, 1) := by decide +kernel
theorem dX5_mean_44 : decode cX5_mean 44 = .ok (.lconst 0, 1) := by decide +kernel
theorem dX5_mean_45 : decode cX5_mean 45 = .ok (.lstore_n 2, 1) := by decide +kernel
theorem dX5_mean_46 : decode cX5_mean 46 = .ok (.iconst 0, 1) := by decide +kernel
theorem dX5_mean_47 : decode cX5_mean 47 = .ok (.istore 4, 2) := by decide +kernel
theorem dX5_mean_49 : decode cX5_mean 49 = .ok (.iload 4, 2) := by decide +kernel
theorem dX5_mean_51 : decode cX5_mean 51 = .ok (.aload_n 0, 1) := by decide +kernel
theorem dX5_mean_52 : decode cX5_mean 52 = .ok (.getfield 7, 3) := by decide +kernel
theorem dX5_mean_55 : decode cX5_mean 55 = .ok (.iload_n 1, 1) := by decide +kernel
theorem dX5_mean_56 : decode cX5_mean 56 = .ok (.iaload, 1) := by decide +kernel
theorem dX5_mean_57 : decode cX5_mean 57 = .ok (.if_icmp .ge 25, 3) := by decide +kernel
theorem dX5_mean_60 : decode cX5_mean 60 = .ok (.lload_n 2, 1) := by decide +kernel
theorem dX5_mean_61 : decode cX5_mean 61 = .ok (.aload_n 0, 1) := by decide +kernel
theorem dX5_mean_62 : decode cX5_mean 62 = .ok (.getfield 13, 3) := by decide +kernel
theorem dX5_mean_65 : decode cX5_mean 65 = .ok (.bipush 40, 2) := by decide +kernel
theorem dX5_mean_67 : decode cX5_mean 67 = .ok (.iload_n 1, 1) := by decide +kernel
theorem dX5_mean_68 : decode cX5_mean 68 = .ok (.imul, 1) := by decide +kernel
theorem dX5_mean_69 : decode cX5_mean 69 = .ok (.iload 4, 2) := by decide +kernel
theorem dX5_mean_71 : decode cX5_mean 71 = .ok (.iadd, 1) := by decide +kernel
theorem dX5_mean_72 : decode cX5_mean 72 = .ok (.iaload, 1) := by decide +kernel
theorem dX5_mean_73 : decode cX5_mean 73 = .ok (.i2l, 1) := by decide +kernel
theorem dX5_mean_74 : decode cX5_mean 74 = .ok (.ladd, 1) := by decide +kernel
theorem dX5_mean_75 : decode cX5_mean 75 = .ok (.lstore_n 2, 1) := by decide +kernel
theorem dX5_mean_76 : decode cX5_mean 76 = .ok (.iinc 4 1, 3) := by decide +kernel
theorem dX5_mean_79 : decode cX5_mean 79 = .ok (.goto (-30), 3) := by decide +kernel
theorem dX5_mean_82 : decode cX5_mean 82 = .ok (.aload_n 0, 1) := by decide +kernel
theorem dX5_mean_83 : decode cX5_mean 83 = .ok (.lload_n 2, 1) := by decide +kernel
theorem dX5_mean_84 : decode cX5_mean 84 = .ok (.aload_n 0, 1) := by decide +kernel
theorem dX5_mean_85 : decode cX5_mean 85 = .ok (.getfield 7, 3) := by decide +kernel
theorem dX5_mean_88 : decode cX5_mean 88 = .ok (.iload_n 1, 1) := by decide +kernel
theorem dX5_mean_89 : decode cX5_mean 89 = .ok (.iaload, 1) := by decide +kernel
theorem dX5_mean_90 : decode cX5_mean 90 = .ok (.i2l, 1) := by decide +kernel
theorem dX5_mean_91 : decode cX5_mean 91 = .ok (.ldiv, 1) := by decide +kernel
theorem dX5_mean_92 : decode cX5_mean 92 = .ok (.l2i, 1) := by decide +kernel
theorem dX5_mean_93 : decode cX5_mean 93 = .ok (.putfield 75, 3) := by decide +kernel
theorem dX5_mean_96 : decode cX5_mean 96 = .ok (.iconst 1, 1) := by decide +kernel
theorem dX5_mean_97 : decode cX5_mean 97 = .ok (.ireturn, 1) := by decide +kernel
theorem dX5_text_0 : decode cX5_text 0 = .ok (.iload_n 1, 1) := by decide +kernel
theorem dX5_text_1 : decode cX5_text 1 = .ok (.i2l, 1) := by decide +kernel
theorem dX5_text_2 : decode cX5_text 2 = .ok (.lconst 0, 1) := by decide +kernel
theorem dX5_text_3 : decode cX5_text 3 = .ok (.ldc2_w 78, 3) := by decide +kernel
theorem dX5_text_6 : decode cX5_text 6 = .ok (.invokestatic 63, 3) := by decide +kernel
theorem dX5_text_9 : decode cX5_text 9 = .ok (.ifCond .eq 9, 3) := by decide +kernel
theorem dX5_text_12 : decode cX5_text 12 = .ok (.iload_n 2, 1) := by decide +kernel
theorem dX5_text_13 : decode cX5_text 13 = .ok (.bipush 60, 2) := by decide +kernel
theorem dX5_text_15 : decode cX5_text 15 = .ok (.if_icmp .le 5, 3) := by decide +kernel
theorem dX5_text_18 : decode cX5_text 18 = .ok (.iconst (-1), 1) := by decide +kernel
theorem dX5_text_19 : decode cX5_text 19 = .ok (.ireturn, 1) := by decide +kernel
theorem dX5_text_20 : decode cX5_text 20 = .ok (.iload_n 2, 1) := by decide +kernel
theorem dX5_text_21 : decode cX5_text 21 = .ok (.ifCond .ge 9, 3) := by decide +kernel
theorem dX5_text_24 : decode cX5_text 24 = .ok (.aload_n 0, 1) := by decide +kernel
theorem dX5_text_25 : decode cX5_text 25 = .ok (.iconst 5, 1) := by decide +kernel
theorem dX5_text_26 : decode cX5_text 26 = .ok (.invokevirtual 67, 3) := by decide +kernel
theorem dX5_text_29 : decode cX5_text 29 = .ok (.ireturn, 1) := by decide +kernel
theorem dX5_text_30 : decode cX5_text 30 = .ok (.aload_n 0, 1) := by decide +kernel
theorem dX5_text_31 : decode cX5_text 31 = .ok (.getfield 16, 3) := by decide +kernel
theorem dX5_text_34 : decode cX5_text 34 = .ok (.iload_n 1, 1) := by decide +kernel
theorem dX5_text_35 : decode cX5_text 35 = .ok (.iload_n 2, 1) := by decide +kernel
theorem dX5_text_36 : decode cX5_text 36 = .ok (.iastore, 1) := by decide +kernel
theorem dX5_text_37 : decode cX5_text 37 = .ok (.iconst 0, 1) := by decide +kernel
theorem dX5_text_38 : decode cX5_text 38 = .ok (.istore_n 3, 1) := by decide +kernel
theorem dX5_text_39 : decode cX5_text 39 = .ok (.iload_n 3, 1) := by decide +kernel
theorem dX5_text_40 : decode cX5_text 40 = .ok (.iload_n 2, 1) := by decide +kernel
theorem dX5_text_41 : decode cX5_text 41 = .ok (.if_icmp .ge 22, 3) := by decide +kernel
theorem dX5_text_44 : decode cX5_text 44 = .ok (.aload_n 0, 1) := by decide +kernel
theorem dX5_text_45 : decode cX5_text 45 = .ok (.getfield 19, 3) := by decide +kernel
theorem dX5_text_48 : decode cX5_text 48 = .ok (.bipush 60, 2) := by decide +kernel
theorem dX5_text_50 : decode cX5_text 50 = .ok (.iload_n 1, 1) := by decide +kernel
theorem dX5_text_51 : decode cX5_text 51 = .ok (.imul, 1) := by decide +kernel
theorem dX5_text_52 : decode cX5_text 52 = .ok (.iload_n 3, 1) := by decide +kernel
theorem dX5_text_53 : decode cX5_text 53 = .ok (.iadd, 1) := by decide +kernel
theorem dX5_text_54 : decode cX5_text 54 = .ok (.bipush 32, 2) := by decide +kernel
theorem dX5_text_56 : decode cX5_text 56 = .ok (.bastore, 1) := by decide +kernel
theorem dX5_text_57 : decode cX5_text 57 = .ok (.iinc 3 1, 3) := by decide +kernel
theorem dX5_text_60 : decode cX5_text 60 = .ok (.goto (-21), 3) := by decide +kernel
theorem dX5_text_63 : decode cX5_text 63 = .ok (.iload_n 2, 1) := by decide +kernel
theorem dX5_text_64 : decode cX5_text 64 = .ok (.ireturn, 1) := by decide +kernel
theorem dX5_put_0 : decode cX5_put 0 = .ok (.iload_n 1, 1) := by decide +kernel
theorem dX5_put_1 : decode cX5_put 1 = .ok (.i2l, 1) := by decide +kernel
theorem dX5_put_2 : decode cX5_put 2 = .ok (.lconst 0, 1) := by decide +kernel
theorem dX5_put_3 : decode cX5_put 3 = .ok (.ldc2_w 78, 3) := by decide +kernel
theorem dX5_put_6 : decode cX5_put 6 = .ok (.invokestatic 63, 3) := by decide +kernel
theorem dX5_put_9 : decode cX5_put 9 = .ok (.ifCond .ne 5, 3) := by decide +kernel
theorem dX5_put_12 : decode cX5_put 12 = .ok (.iconst (-1), 1) := by decide +kernel
theorem dX5_put_13 : decode cX5_put 13 = .ok (.ireturn, 1) := by decide +kernel
theorem dX5_put_14 : decode cX5_put 14 = .ok (.aload_n 0, 1) := by decide +kernel
theorem dX5_put_15 : decode cX5_put 15 = .ok (.getfield 16, 3) := by decide +kernel
theorem dX5_put_18 : decode cX5_put 18 = .ok (.iload_n 1, 1) := by decide +kernel
theorem dX5_put_19 : decode cX5_put 19 = .ok (.iaload, 1) := by decide +kernel
theorem dX5_put_20 : decode cX5_put 20 = .ok (.ifCond .ge 9, 3) := by decide +kernel
theorem dX5_put_23 : decode cX5_put 23 = .ok (.aload_n 0, 1) := by decide +kernel
theorem dX5_put_24 : decode cX5_put 24 = .ok (.iconst 1, 1) := by decide +kernel
theorem dX5_put_25 : decode cX5_put 25 = .ok (.invokevirtual 67, 3) := by decide +kernel
theorem dX5_put_28 : decode cX5_put 28 = .ok (.ireturn, 1) := by decide +kernel
theorem dX5_put_29 : decode cX5_put 29 = .ok (.iload_n 2, 1) := by decide +kernel
theorem dX5_put_30 : decode cX5_put 30 = .ok (.i2l, 1) := by decide +kernel
theorem dX5_put_31 : decode cX5_put 31 = .ok (.lconst 0, 1) := by decide +kernel
theorem dX5_put_32 : decode cX5_put 32 = .ok (.aload_n 0, 1) := by decide +kernel
theorem dX5_put_33 : decode cX5_put 33 = .ok (.getfield 16, 3) := by decide +kernel
theorem dX5_put_36 : decode cX5_put 36 = .ok (.iload_n 1, 1) := by decide +kernel
theorem dX5_put_37 : decode cX5_put 37 = .ok (.iaload, 1) := by decide +kernel
theorem dX5_put_38 : decode cX5_put 38 = .ok (.iconst 1, 1) := by decide +kernel
theorem dX5_put_39 : decode cX5_put 39 = .ok (.isub, 1) := by decide +kernel
theorem dX5_put_40 : decode cX5_put 40 = .ok (.i2l, 1) := by decide +kernel
theorem dX5_put_41 : decode cX5_put 41 = .ok (.invokestatic 63, 3) := by decide +kernel
theorem dX5_put_44 : decode cX5_put 44 = .ok (.ifCond .ne 9, 3) := by decide +kernel
theorem dX5_put_47 : decode cX5_put 47 = .ok (.aload_n 0, 1) := by decide +kernel
theorem dX5_put_48 : decode cX5_put 48 = .ok (.iconst 2, 1) := by decide +kernel
theorem dX5_put_49 : decode cX5_put 49 = .ok (.invokevirtual 67, 3) := by decide +kernel
theorem dX5_put_52 : decode cX5_put 52 = .ok (.ireturn, 1) := by decide +kernel
theorem dX5_put_53 : decode cX5_put 53 = .ok (.aload_n 0, 1) := by decide +kernel
theorem dX5_put_54 : decode cX5_put 54 = .ok (.getfield 19, 3) := by decide +kernel
theorem dX5_put_57 : decode cX5_put 57 = .ok (.bipush 60, 2) := by decide +kernel
theorem dX5_put_59 : decode cX5_put 59 = .ok (.iload_n 1, 1) := by decide +kernel
theorem dX5_put_60 : decode cX5_put 60 = .ok (.imul, 1) := by decide +kernel
theorem dX5_put_61 : decode cX5_put 61 = .ok (.iload_n 2, 1) := by decide +kernel
theorem dX5_put_62 : decode cX5_put 62 = .ok (.iadd, 1) := by decide +kernel
theorem dX5_put_63 : decode cX5_put 63 = .ok (.baload, 1) := by decide +kernel
theorem dX5_put_64 : decode cX5_put 64 = .ok (.istore 4, 2) := by decide +kernel
theorem dX5_put_66 : decode cX5_put 66 = .ok (.aload_n 0, 1) := by decide +kernel
theorem dX5_put_67 : decode cX5_put 67 = .ok (.getfield 19, 3) := by decide +kernel
theorem dX5_put_70 : decode cX5_put 70 = .ok (.bipush 60, 2) := by decide +kernel
theorem dX5_put_72 : decode cX5_put 72 = .ok (.iload_n 1, 1) := by decide +kernel
theorem dX5_put_73 : decode cX5_put 73 = .ok (.imul, 1) := by decide +kernel
theorem dX5_put_74 : decode cX5_put 74 = .ok (.iload_n 2, 1) := by decide +kernel
theorem dX5_put_75 : decode cX5_put 75 = .ok (.iadd, 1) := by decide +kernel
theorem dX5_put_76 : decode cX5_put 76 = .ok (.iload_n 3, 1) := by decide +kernel
theorem dX5_put_77 : decode cX5_put 77 = .ok (.i2b, 1) := by decide +kernel
theorem dX5_put_78 : decode cX5_put 78 = .ok (.bastore, 1) := by decide +kernel
theorem dX5_put_79 : decode cX5_put 79 = .ok (.iload 4, 2) := by decide +kernel
theorem dX5_put_81 : decode cX5_put 81 = .ok (.sipush 1000, 3) := by decide +kernel
theorem dX5_put_84 : decode cX5_put 84 = .ok (.iadd, 1) := by decide +kernel
theorem dX5_put_85 : decode cX5_put 85 = .ok (.ireturn, 1) := by decide +kernel
theorem dX5_byteAt_0 : decode cX5_byteAt 0 = .ok (.iload_n 2, 1) := by decide +kernel
theorem dX5_byteAt_1 : decode cX5_byteAt 1 = .ok (.aload_n 0, 1) := by decide +kernel
theorem dX5_byteAt_2 : decode cX5_byteAt 2 = .ok (.getfield 16, 3) := by decide +kernel
theorem dX5_byteAt_5 : decode cX5_byteAt 5 = .ok (.iload_n 1, 1) := by decide +kernel
theorem dX5_byteAt_6 : decode cX5_byteAt 6 = .ok (.iaload, 1) := by decide +kernel
theorem dX5_byteAt_7 : decode cX5_byteAt 7 = .ok (.if_icmp .ge 17, 3) := by decide +kernel
theorem dX5_byteAt_10 : decode cX5_byteAt 10 = .ok (.aload_n 0, 1) := by decide +kernel
theorem dX5_byteAt_11 : decode cX5_byteAt 11 = .ok (.getfield 19, 3) := by decide +kernel
theorem dX5_byteAt_14 : decode cX5_byteAt 14 = .ok (.bipush 60, 2) := by decide +kernel
theorem dX5_byteAt_16 : decode cX5_byteAt 16 = .ok (.iload_n 1, 1) := by decide +kernel
theorem dX5_byteAt_17 : decode cX5_byteAt 17 = .ok (.imul, 1) := by decide +kernel
theorem dX5_byteAt_18 : decode cX5_byteAt 18 = .ok (.iload_n 2, 1) := by decide +kernel
theorem dX5_byteAt_19 : decode cX5_byteAt 19 = .ok (.iadd, 1) := by decide +kernel
theorem dX5_byteAt_20 : decode cX5_byteAt 20 = .ok (.baload, 1) := by decide +kernel
theorem dX5_byteAt_21 : decode cX5_byteAt 21 = .ok (.goto 4, 3) := by decide +kernel
theorem dX5_byteAt_24 : decode cX5_byteAt 24 = .ok (.iconst (-1), 1) := by decide +kernel
theorem dX5_byteAt_25 : decode cX5_byteAt 25 = .ok (.ireturn, 1) := by decide +kernel
theorem dX5_kindOf_0 : decode cX5_kindOf 0 = .ok (.iload_n 0, 1) := by decide +kernel
theorem dX5_kindOf_1 : decode cX5_kindOf 1 = .ok (.bipush 100, 2) := by decide +kernel
theorem dX5_kindOf_3 : decode cX5_kindOf 3 = .ok (.if_icmp .ne 7, 3) := by decide +kernel
theorem dX5_kindOf_6 : decode cX5_kindOf 6 = .ok (.iconst 0, 1) := by decide +kernel
theorem dX5_kindOf_7 : decode cX5_kindOf 7 = .ok (.goto 55, 3) := by decide +kernel
theorem dX5_kindOf_10 : decode cX5_kindOf 10 = .ok (.iload_n 0, 1) := by decide +kernel
theorem dX5_kindOf_11 : decode cX5_kindOf 11 = .ok (.bipush 102, 2) := by decide +kernel
theorem dX5_kindOf_13 : decode cX5_kindOf 13 = .ok (.if_icmp .ne 7, 3) := by decide +kernel
theorem dX5_kindOf_16 : decode cX5_kindOf 16 = .ok (.iconst 1, 1) := by decide +kernel
theorem dX5_kindOf_17 : decode cX5_kindOf 17 = .ok (.goto 45, 3) := by decide +kernel
theorem dX5_kindOf_20 : decode cX5_kindOf 20 = .ok (.iload_n 0, 1) := by decide +kernel
theorem dX5_kindOf_21 : decode cX5_kindOf 21 = .ok (.bipush 114, 2) := by decide +kernel
theorem dX5_kindOf_23 : decode cX5_kindOf 23 = .ok (.if_icmp .ne 7, 3) := by decide +kernel
theorem dX5_kindOf_26 : decode cX5_kindOf 26 = .ok (.iconst 2, 1) := by decide +kernel
theorem dX5_kindOf_27 : decode cX5_kindOf 27 = .ok (.goto 35, 3) := by decide +kernel
theorem dX5_kindOf_30 : decode cX5_kindOf 30 = .ok (.iload_n 0, 1) := by decide +kernel
theorem dX5_kindOf_31 : decode cX5_kindOf 31 = .ok (.bipush 112, 2) := by decide +kernel
theorem dX5_kindOf_33 : decode cX5_kindOf 33 = .ok (.if_icmp .ne 7, 3) := by decide +kernel
theorem dX5_kindOf_36 : decode cX5_kindOf 36 = .ok (.iconst 3, 1) := by decide +kernel
theorem dX5_kindOf_37 : decode cX5_kindOf 37 = .ok (.goto 25, 3) := by decide +kernel
theorem dX5_kindOf_40 : decode cX5_kindOf 40 = .ok (.iload_n 0, 1) := by decide +kernel
theorem dX5_kindOf_41 : decode cX5_kindOf 41 = .ok (.bipush 101, 2) := by decide +kernel
theorem dX5_kindOf_43 : decode cX5_kindOf 43 = .ok (.if_icmp .ne 7, 3) := by decide +kernel
theorem dX5_kindOf_46 : decode cX5_kindOf 46 = .ok (.iconst 4, 1) := by decide +kernel
theorem dX5_kindOf_47 : decode cX5_kindOf 47 = .ok (.goto 15, 3) := by decide +kernel
theorem dX5_kindOf_50 : decode cX5_kindOf 50 = .ok (.iload_n 0, 1) := by decide +kernel
theorem dX5_kindOf_51 : decode cX5_kindOf 51 = .ok (.bipush 104, 2) := by decide +kernel
theorem dX5_kindOf_53 : decode cX5_kindOf 53 = .ok (.if_icmp .ne 7, 3) := by decide +kernel
theorem dX5_kindOf_56 : decode cX5_kindOf 56 = .ok (.iconst 5, 1) := by decide +kernel
theorem dX5_kindOf_57 : decode cX5_kindOf 57 = .ok (.goto 5, 3) := by decide +kernel
theorem dX5_kindOf_60 : decode cX5_kindOf 60 = .ok (.bipush (-9), 2) := by decide +kernel
theorem dX5_kindOf_62 : decode cX5_kindOf 62 = .ok (.ireturn, 1) := by decide +kernel
theorem dX5_reads_0 : decode cX5_reads 0 = .ok (.aload_n 0, 1) := by decide +kernel
theorem dX5_reads_1 : decode cX5_reads 1 = .ok (.iconst 0, 1) := by decide +kernel
theorem dX5_reads_2 : decode cX5_reads 2 = .ok (.putfield 80, 3) := by decide +kernel
theorem dX5_reads_5 : decode cX5_reads 5 = .ok (.iconst 0, 1) := by decide +kernel
theorem dX5_reads_6 : decode cX5_reads 6 = .ok (.istore_n 2, 1) := by decide +kernel
theorem dX5_reads_7 : decode cX5_reads 7 = .ok (.iload_n 2, 1) := by decide +kernel
theorem dX5_reads_8 : decode cX5_reads 8 = .ok (.aload_n 0, 1) := by decide +kernel
theorem dX5_reads_9 : decode cX5_reads 9 = .ok (.getfield 16, 3) := by decide +kernel
theorem dX5_reads_12 : decode cX5_reads 12 = .ok (.iload_n 1, 1) := by decide +kernel
theorem dX5_reads_13 : decode cX5_reads 13 = .ok (.iaload, 1) := by decide +kernel
theorem dX5_reads_14 : decode cX5_reads 14 = .ok (.if_icmp .ge 167, 3) := by decide +kernel
theorem dX5_reads_17 : decode cX5_reads 17 = .ok (.aload_n 0, 1) := by decide +kernel
theorem dX5_reads_18 : decode cX5_reads 18 = .ok (.iload_n 1, 1) := by decide +kernel
theorem dX5_reads_19 : decode cX5_reads 19 = .ok (.iload_n 2, 1) := by decide +kernel
theorem dX5_reads_20 : decode cX5_reads 20 = .ok (.invokevirtual 83, 3) := by decide +kernel
theorem dX5_reads_23 : decode cX5_reads 23 = .ok (.bipush 32, 2) := by decide +kernel
theorem dX5_reads_25 : decode cX5_reads 25 = .ok (.if_icmp .ne 9, 3) := by decide +kernel
theorem dX5_reads_28 : decode cX5_reads 28 = .ok (.iinc 2 1, 3) := by decide +kernel
theorem dX5_reads_31 : decode cX5_reads 31 = .ok (.goto (-24), 3) := by decide +kernel
theorem dX5_reads_34 : decode cX5_reads 34 = .ok (.aload_n 0, 1) := by decide +kernel
theorem dX5_reads_35 : decode cX5_reads 35 = .ok (.iload_n 1, 1) := by decide +kernel
theorem dX5_reads_36 : decode cX5_reads 36 = .ok (.iload_n 2, 1) := by decide +kernel
theorem dX5_reads_37 : decode cX5_reads 37 = .ok (.invokevirtual 83, 3) := by decide +kernel
theorem dX5_reads_40 : decode cX5_reads 40 = .ok (.invokestatic 87, 3) := by decide +kernel
theorem dX5_reads_43 : decode cX5_reads 43 = .ok (.ifCond .lt 12, 3) := by decide +kernel
theorem dX5_reads_46 : decode cX5_reads 46 = .ok (.aload_n 0, 1) := by decide +kernel
theorem dX5_reads_47 : decode cX5_reads 47 = .ok (.getfield 80, 3) := by decide +kernel
theorem dX5_reads_50 : decode cX5_reads 50 = .ok (.bipush 9, 2) := by decide +kernel
theorem dX5_reads_52 : decode cX5_reads 52 = .ok (.if_icmp .ne 5, 3) := by decide +kernel
theorem dX5_reads_55 : decode cX5_reads 55 = .ok (.iload_n 2, 1) := by decide +kernel
theorem dX5_reads_56 : decode cX5_reads 56 = .ok (.ireturn, 1) := by decide +kernel
theorem dX5_reads_57 : decode cX5_reads 57 = .ok (.aload_n 0, 1) := by decide +kernel
theorem dX5_reads_58 : decode cX5_reads 58 = .ok (.iload_n 1, 1) := by decide +kernel
theorem dX5_reads_59 : decode cX5_reads 59 = .ok (.iload_n 2, 1) := by decide +kernel
theorem dX5_reads_60 : decode cX5_reads 60 = .ok (.iconst 1, 1) := by decide +kernel
theorem dX5_reads_61 : decode cX5_reads 61 = .ok (.iadd, 1) := by decide +kernel
theorem dX5_reads_62 : decode cX5_reads 62 = .ok (.invokevirtual 83, 3) := by decide +kernel
theorem dX5_reads_65 : decode cX5_reads 65 = .ok (.i2l, 1) := by decide +kernel
theorem dX5_reads_66 : decode cX5_reads 66 = .ok (.ldc2_w 90, 3) := by decide +kernel
theorem dX5_reads_69 : decode cX5_reads 69 = .ok (.ldc2_w 92, 3) := by decide +kernel
theorem dX5_reads_72 : decode cX5_reads 72 = .ok (.invokestatic 63, 3) := by decide +kernel
theorem dX5_reads_75 : decode cX5_reads 75 = .ok (.ifCond .ne 7, 3) := by decide +kernel
theorem dX5_reads_78 : decode cX5_reads 78 = .ok (.iload_n 2, 1) := by decide +kernel
theorem dX5_reads_79 : decode cX5_reads 79 = .ok (.iconst 1, 1) := by decide +kernel
theorem dX5_reads_80 : decode cX5_reads 80 = .ok (.iadd, 1) := by decide +kernel
theorem dX5_reads_81 : decode cX5_reads 81 = .ok (.ireturn, 1) := by decide +kernel
theorem dX5_reads_82 : decode cX5_reads 82 = .ok (.aload_n 0, 1) := by decide +kernel
theorem dX5_reads_83 : decode cX5_reads 83 = .ok (.iload_n 1, 1) := by decide +kernel
theorem dX5_reads_84 : decode cX5_reads 84 = .ok (.iload_n 2, 1) := by decide +kernel
theorem dX5_reads_85 : decode cX5_reads 85 = .ok (.iconst 2, 1) := by decide +kernel
theorem dX5_reads_86 : decode cX5_reads 86 = .ok (.iadd, 1) := by decide +kernel
theorem dX5_reads_87 : decode cX5_reads 87 = .ok (.invokevirtual 83, 3) := by decide +kernel
theorem dX5_reads_90 : decode cX5_reads 90 = .ok (.i2l, 1) := by decide +kernel
theorem dX5_reads_91 : decode cX5_reads 91 = .ok (.ldc2_w 90, 3) := by decide +kernel
theorem dX5_reads_94 : decode cX5_reads 94 = .ok (.ldc2_w 92, 3) := by decide +kernel
theorem dX5_reads_97 : decode cX5_reads 97 = .ok (.invokestatic 63, 3) := by decide +kernel
theorem dX5_reads_100 : decode cX5_reads 100 = .ok (.ifCond .ne 7, 3) := by decide +kernel
theorem dX5_reads_103 : decode cX5_reads 103 = .ok (.iload_n 2, 1) := by decide +kernel
theorem dX5_reads_104 : decode cX5_reads 104 = .ok (.iconst 2, 1) := by decide +kernel
theorem dX5_reads_105 : decode cX5_reads 105 = .ok (.iadd, 1) := by decide +kernel
theorem dX5_reads_106 : decode cX5_reads 106 = .ok (.ireturn, 1) := by decide +kernel
theorem dX5_reads_107 : decode cX5_reads 107 = .ok (.aload_n 0, 1) := by decide +kernel
theorem dX5_reads_108 : decode cX5_reads 108 = .ok (.getfield 32, 3) := by decide +kernel
theorem dX5_reads_111 : decode cX5_reads 111 = .ok (.aload_n 0, 1) := by decide +kernel
theorem dX5_reads_112 : decode cX5_reads 112 = .ok (.getfield 80, 3) := by decide +kernel
theorem dX5_reads_115 : decode cX5_reads 115 = .ok (.aload_n 0, 1) := by decide +kernel
theorem dX5_reads_116 : decode cX5_reads 116 = .ok (.iload_n 1, 1) := by decide +kernel
theorem dX5_reads_117 : decode cX5_reads 117 = .ok (.iload_n 2, 1) := by decide +kernel
theorem dX5_reads_118 : decode cX5_reads 118 = .ok (.invokevirtual 83, 3) := by decide +kernel
theorem dX5_reads_121 : decode cX5_reads 121 = .ok (.invokestatic 87, 3) := by decide +kernel
theorem dX5_reads_124 : decode cX5_reads 124 = .ok (.iastore, 1) := by decide +kernel
theorem dX5_reads_125 : decode cX5_reads 125 = .ok (.aload_n 0, 1) := by decide +kernel
theorem dX5_reads_126 : decode cX5_reads 126 = .ok (.getfield 35, 3) := by decide +kernel
theorem dX5_reads_129 : decode cX5_reads 129 = .ok (.aload_n 0, 1) := by decide +kernel
theorem dX5_reads_130 : decode cX5_reads 130 = .ok (.getfield 80, 3) := by decide +kernel
theorem dX5_reads_133 : decode cX5_reads 133 = .ok (.aload_n 0, 1) := by decide +kernel
theorem dX5_reads_134 : decode cX5_reads 134 = .ok (.iload_n 1, 1) := by decide +kernel
theorem dX5_reads_135 : decode cX5_reads 135 = .ok (.iload_n 2, 1) := by decide +kernel
theorem dX5_reads_136 : decode cX5_reads 136 = .ok (.iconst 1, 1) := by decide +kernel
theorem dX5_reads_137 : decode cX5_reads 137 = .ok (.iadd, 1) := by decide +kernel
theorem dX5_reads_138 : decode cX5_reads 138 = .ok (.invokevirtual 83, 3) := by decide +kernel
theorem dX5_reads_141 : decode cX5_reads 141 = .ok (.bipush 48, 2) := by decide +kernel
theorem dX5_reads_143 : decode cX5_reads 143 = .ok (.isub, 1) := by decide +kernel
theorem dX5_reads_144 : decode cX5_reads 144 = .ok (.iastore, 1) := by decide +kernel
theorem dX5_reads_145 : decode cX5_reads 145 = .ok (.aload_n 0, 1) := by decide +kernel
theorem dX5_reads_146 : decode cX5_reads 146 = .ok (.getfield 38, 3) := by decide +kernel
theorem dX5_reads_149 : decode cX5_reads 149 = .ok (.aload_n 0, 1) := by decide +kernel
theorem dX5_reads_150 : decode cX5_reads 150 = .ok (.getfield 80, 3) := by decide +kernel
theorem dX5_reads_153 : decode cX5_reads 153 = .ok (.aload_n 0, 1) := by decide +kernel
theorem dX5_reads_154 : decode cX5_reads 154 = .ok (.iload_n 1, 1) := by decide +kernel
theorem dX5_reads_155 : decode cX5_reads 155 = .ok (.iload_n 2, 1) := by decide +kernel
theorem dX5_reads_156 : decode cX5_reads 156 = .ok (.iconst 2, 1) := by decide +kernel
theorem dX5_reads_157 : decode cX5_reads 157 = .ok (.iadd, 1) := by decide +kernel
theorem dX5_reads_158 : decode cX5_reads 158 = .ok (.invokevirtual 83, 3) := by decide +kernel
theorem dX5_reads_161 : decode cX5_reads 161 = .ok (.bipush 48, 2) := by decide +kernel
theorem dX5_reads_163 : decode cX5_reads 163 = .ok (.isub, 1) := by decide +kernel
theorem dX5_reads_164 : decode cX5_reads 164 = .ok (.iastore, 1) := by decide +kernel
theorem dX5_reads_165 : decode cX5_reads 165 = .ok (.aload_n 0, 1) := by decide +kernel
theorem dX5_reads_166 : decode cX5_reads 166 = .ok (.dup, 1) := by decide +kernel
theorem dX5_reads_167 : decode cX5_reads 167 = .ok (.getfield 80, 3) := by decide +kernel
theorem dX5_reads_170 : decode cX5_reads 170 = .ok (.iconst 1, 1) := by decide +kernel
theorem dX5_reads_171 : decode cX5_reads 171 = .ok (.iadd, 1) := by decide +kernel
theorem dX5_reads_172 : decode cX5_reads 172 = .ok (.putfield 80, 3) := by decide +kernel
theorem dX5_reads_175 : decode cX5_reads 175 = .ok (.iinc 2 3, 3) := by decide +kernel
theorem dX5_reads_178 : decode cX5_reads 178 = .ok (.goto (-171), 3) := by decide +kernel
theorem dX5_reads_181 : decode cX5_reads 181 = .ok (.aload_n 0, 1) := by decide +kernel
theorem dX5_reads_182 : decode cX5_reads 182 = .ok (.getfield 80, 3) := by decide +kernel
theorem dX5_reads_185 : decode cX5_reads 185 = .ok (.iconst 2, 1) := by decide +kernel
theorem dX5_reads_186 : decode cX5_reads 186 = .ok (.if_icmp .ge 12, 3) := by decide +kernel
theorem dX5_reads_189 : decode cX5_reads 189 = .ok (.aload_n 0, 1) := by decide +kernel
theorem dX5_reads_190 : decode cX5_reads 190 = .ok (.getfield 16, 3) := by decide +kernel
theorem dX5_reads_193 : decode cX5_reads 193 = .ok (.iload_n 1, 1) := by decide +kernel
theorem dX5_reads_194 : decode cX5_reads 194 = .ok (.iaload, 1) := by decide +kernel
theorem dX5_reads_195 : decode cX5_reads 195 = .ok (.goto 5, 3) := by decide +kernel
theorem dX5_reads_198 : decode cX5_reads 198 = .ok (.bipush (-9), 2) := by decide +kernel
theorem dX5_reads_200 : decode cX5_reads 200 = .ok (.ireturn, 1) := by decide +kernel
theorem dX5_fault_0 : decode cX5_fault 0 = .ok (.iload_n 1, 1) := by decide +kernel
theorem dX5_fault_1 : decode cX5_fault 1 = .ok (.i2l, 1) := by decide +kernel
theorem dX5_fault_2 : decode cX5_fault 2 = .ok (.lconst 0, 1) := by decide +kernel
theorem dX5_fault_3 : decode cX5_fault 3 = .ok (.ldc2_w 78, 3) := by decide +kernel
theorem dX5_fault_6 : decode cX5_fault 6 = .ok (.invokestatic 63, 3) := by decide +kernel
theorem dX5_fault_9 : decode cX5_fault 9 = .ok (.ifCond .ne 5, 3) := by decide +kernel
theorem dX5_fault_12 : decode cX5_fault 12 = .ok (.iconst (-1), 1) := by decide +kernel
theorem dX5_fault_13 : decode cX5_fault 13 = .ok (.ireturn, 1) := by decide +kernel
theorem dX5_fault_14 : decode cX5_fault 14 = .ok (.aload_n 0, 1) := by decide +kernel
theorem dX5_fault_15 : decode cX5_fault 15 = .ok (.getfield 16, 3) := by decide +kernel
theorem dX5_fault_18 : decode cX5_fault 18 = .ok (.iload_n 1, 1) := by decide +kernel
theorem dX5_fault_19 : decode cX5_fault 19 = .ok (.iaload, 1) := by decide +kernel
theorem dX5_fault_20 : decode cX5_fault 20 = .ok (.ifCond .ge 11, 3) := by decide +kernel
theorem dX5_fault_23 : decode cX5_fault 23 = .ok (.aload_n 0, 1) := by decide +kernel
theorem dX5_fault_24 : decode cX5_fault 24 = .ok (.iconst 1, 1) := by decide +kernel
theorem dX5_fault_25 : decode cX5_fault 25 = .ok (.invokevirtual 67, 3) := by decide +kernel
theorem dX5_fault_28 : decode cX5_fault 28 = .ok (.goto 8, 3) := by decide +kernel
theorem dX5_fault_31 : decode cX5_fault 31 = .ok (.aload_n 0, 1) := by decide +kernel
theorem dX5_fault_32 : decode cX5_fault 32 = .ok (.iload_n 1, 1) := by decide +kernel
theorem dX5_fault_33 : decode cX5_fault 33 = .ok (.invokevirtual 94, 3) := by decide +kernel
theorem dX5_fault_36 : decode cX5_fault 36 = .ok (.ireturn, 1) := by decide +kernel
theorem dX5_leat_0 : decode cX5_leat 0 = .ok (.iload_n 1, 1) := by decide +kernel
theorem dX5_leat_1 : decode cX5_leat 1 = .ok (.i2l, 1) := by decide +kernel
theorem dX5_leat_2 : decode cX5_leat 2 = .ok (.lconst 0, 1) := by decide +kernel
theorem dX5_leat_3 : decode cX5_leat 3 = .ok (.ldc2_w 78, 3) := by decide +kernel
theorem dX5_leat_6 : decode cX5_leat 6 = .ok (.invokestatic 63, 3) := by decide +kernel
theorem dX5_leat_9 : decode cX5_leat 9 = .ok (.ifCond .ne 5, 3) := by decide +kernel
theorem dX5_leat_12 : decode cX5_leat 12 = .ok (.iconst (-1), 1) := by decide +kernel
theorem dX5_leat_13 : decode cX5_leat 13 = .ok (.ireturn, 1) := by decide +kernel
theorem dX5_leat_14 : decode cX5_leat 14 = .ok (.aload_n 0, 1) := by decide +kernel
theorem dX5_leat_15 : decode cX5_leat 15 = .ok (.getfield 16, 3) := by decide +kernel
theorem dX5_leat_18 : decode cX5_leat 18 = .ok (.iload_n 1, 1) := by decide +kernel
theorem dX5_leat_19 : decode cX5_leat 19 = .ok (.iaload, 1) := by decide +kernel
theorem dX5_leat_20 : decode cX5_leat 20 = .ok (.ifCond .ge 9, 3) := by decide +kernel
theorem dX5_leat_23 : decode cX5_leat 23 = .ok (.aload_n 0, 1) := by decide +kernel
theorem dX5_leat_24 : decode cX5_leat 24 = .ok (.iconst 1, 1) := by decide +kernel
theorem dX5_leat_25 : decode cX5_leat 25 = .ok (.invokevirtual 67, 3) := by decide +kernel
theorem dX5_leat_28 : decode cX5_leat 28 = .ok (.ireturn, 1) := by decide +kernel
theorem dX5_leat_29 : decode cX5_leat 29 = .ok (.aload_n 0, 1) := by decide +kernel
theorem dX5_leat_30 : decode cX5_leat 30 = .ok (.iload_n 1, 1) := by decide +kernel
theorem dX5_leat_31 : decode cX5_leat 31 = .ok (.invokevirtual 94, 3) := by decide +kernel
theorem dX5_leat_34 : decode cX5_leat 34 = .ok (.bipush (-9), 2) := by decide +kernel
theorem dX5_leat_36 : decode cX5_leat 36 = .ok (.if_icmp .eq 6, 3) := by decide +kernel
theorem dX5_leat_39 : decode cX5_leat 39 = .ok (.bipush (-4), 2) := by decide +kernel
theorem dX5_leat_41 : decode cX5_leat 41 = .ok (.ireturn, 1) := by decide +kernel
theorem dX5_leat_42 : decode cX5_leat 42 = .ok (.aload_n 0, 1) := by decide +kernel
theorem dX5_leat_43 : decode cX5_leat 43 = .ok (.aload_n 0, 1) := by decide +kernel
theorem dX5_leat_44 : decode cX5_leat 44 = .ok (.getfield 80, 3) := by decide +kernel
theorem dX5_leat_47 : decode cX5_leat 47 = .ok (.putfield 97, 3) := by decide +kernel
theorem dX5_leat_50 : decode cX5_leat 50 = .ok (.iconst 0, 1) := by decide +kernel
theorem dX5_leat_51 : decode cX5_leat 51 = .ok (.istore_n 2, 1) := by decide +kernel
theorem dX5_leat_52 : decode cX5_leat 52 = .ok (.iload_n 2, 1) := by decide +kernel
theorem dX5_leat_53 : decode cX5_leat 53 = .ok (.bipush 9, 2) := by decide +kernel
theorem dX5_leat_55 : decode cX5_leat 55 = .ok (.if_icmp .ge 45, 3) := by decide +kernel
theorem dX5_leat_58 : decode cX5_leat 58 = .ok (.aload_n 0, 1) := by decide +kernel
theorem dX5_leat_59 : decode cX5_leat 59 = .ok (.getfield 23, 3) := by decide +kernel
theorem dX5_leat_62 : decode cX5_leat 62 = .ok (.iload_n 2, 1) := by decide +kernel
theorem dX5_leat_63 : decode cX5_leat 63 = .ok (.aload_n 0, 1) := by decide +kernel
theorem dX5_leat_64 : decode cX5_leat 64 = .ok (.getfield 32, 3) := by decide +kernel
theorem dX5_leat_67 : decode cX5_leat 67 = .ok (.iload_n 2, 1) := by decide +kernel
theorem dX5_leat_68 : decode cX5_leat 68 = .ok (.iaload, 1) := by decide +kernel
theorem dX5_leat_69 : decode cX5_leat 69 = .ok (.iastore, 1) := by decide +kernel
theorem dX5_leat_70 : decode cX5_leat 70 = .ok (.aload_n 0, 1) := by decide +kernel
theorem dX5_leat_71 : decode cX5_leat 71 = .ok (.getfield 26, 3) := by decide +kernel
theorem dX5_leat_74 : decode cX5_leat 74 = .ok (.iload_n 2, 1) := by decide +kernel
theorem dX5_leat_75 : decode cX5_leat 75 = .ok (.aload_n 0, 1) := by decide +kernel
theorem dX5_leat_76 : decode cX5_leat 76 = .ok (.getfield 35, 3) := by decide +kernel
theorem dX5_leat_79 : decode cX5_leat 79 = .ok (.iload_n 2, 1) := by decide +kernel
theorem dX5_leat_80 : decode cX5_leat 80 = .ok (.iaload, 1) := by decide +kernel
theorem dX5_leat_81 : decode cX5_leat 81 = .ok (.iastore, 1) := by decide +kernel
theorem dX5_leat_82 : decode cX5_leat 82 = .ok (.aload_n 0, 1) := by decide +kernel
theorem dX5_leat_83 : decode cX5_leat 83 = .ok (.getfield 29, 3) := by decide +kernel
theorem dX5_leat_86 : decode cX5_leat 86 = .ok (.iload_n 2, 1) := by decide +kernel
theorem dX5_leat_87 : decode cX5_leat 87 = .ok (.aload_n 0, 1) := by decide +kernel
theorem dX5_leat_88 : decode cX5_leat 88 = .ok (.getfield 38, 3) := by decide +kernel
theorem dX5_leat_91 : decode cX5_leat 91 = .ok (.iload_n 2, 1) := by decide +kernel
theorem dX5_leat_92 : decode cX5_leat 92 = .ok (.iaload, 1) := by decide +kernel
theorem dX5_leat_93 : decode cX5_leat 93 = .ok (.iastore, 1) := by decide +kernel
theorem dX5_leat_94 : decode cX5_leat 94 = .ok (.iinc 2 1, 3) := by decide +kernel
theorem dX5_leat_97 : decode cX5_leat 97 = .ok (.goto (-45), 3) := by decide +kernel
theorem dX5_leat_100 : decode cX5_leat 100 = .ok (.aload_n 0, 1) := by decide +kernel
theorem dX5_leat_101 : decode cX5_leat 101 = .ok (.iconst 0, 1) := by decide +kernel
theorem dX5_leat_102 : decode cX5_leat 102 = .ok (.putfield 100, 3) := by decide +kernel
theorem dX5_leat_105 : decode cX5_leat 105 = .ok (.iconst 0, 1) := by decide +kernel
theorem dX5_leat_106 : decode cX5_leat 106 = .ok (.istore_n 2, 1) := by decide +kernel
theorem dX5_leat_107 : decode cX5_leat 107 = .ok (.iload_n 2, 1) := by decide +kernel
theorem dX5_leat_108 : decode cX5_leat 108 = .ok (.bipush 6, 2) := by decide +kernel
theorem dX5_leat_110 : decode cX5_leat 110 = .ok (.if_icmp .ge 16, 3) := by decide +kernel
theorem dX5_leat_113 : decode cX5_leat 113 = .ok (.aload_n 0, 1) := by decide +kernel
theorem dX5_leat_114 : decode cX5_leat 114 = .ok (.getfield 41, 3) := by decide +kernel
theorem dX5_leat_117 : decode cX5_leat 117 = .ok (.iload_n 2, 1) := by decide +kernel
theorem dX5_leat_118 : decode cX5_leat 118 = .ok (.iconst 0, 1) := by decide +kernel
theorem dX5_leat_119 : decode cX5_leat 119 = .ok (.iastore, 1) := by decide +kernel
theorem dX5_leat_120 : decode cX5_leat 120 = .ok (.iinc 2 1, 3) := by decide +kernel
theorem dX5_leat_123 : decode cX5_leat 123 = .ok (.goto (-16), 3) := by decide +kernel
theorem dX5_leat_126 : decode cX5_leat 126 = .ok (.aload_n 0, 1) := by decide +kernel
theorem dX5_leat_127 : decode cX5_leat 127 = .ok (.getfield 41, 3) := by decide +kernel
theorem dX5_leat_130 : decode cX5_leat 130 = .ok (.iconst 1, 1) := by decide +kernel
theorem dX5_leat_131 : decode cX5_leat 131 = .ok (.iconst 2, 1) := by decide +kernel
theorem dX5_leat_132 : decode cX5_leat 132 = .ok (.iastore, 1) := by decide +kernel
theorem dX5_leat_133 : decode cX5_leat 133 = .ok (.iconst 0, 1) := by decide +kernel
theorem dX5_leat_134 : decode cX5_leat 134 = .ok (.istore_n 2, 1) := by decide +kernel
theorem dX5_leat_135 : decode cX5_leat 135 = .ok (.iload_n 2, 1) := by decide +kernel
theorem dX5_leat_136 : decode cX5_leat 136 = .ok (.iconst 3, 1) := by decide +kernel
theorem dX5_leat_137 : decode cX5_leat 137 = .ok (.if_icmp .ge 16, 3) := by decide +kernel
theorem dX5_leat_140 : decode cX5_leat 140 = .ok (.aload_n 0, 1) := by decide +kernel
theorem dX5_leat_141 : decode cX5_leat 141 = .ok (.getfield 44, 3) := by decide +kernel
theorem dX5_leat_144 : decode cX5_leat 144 = .ok (.iload_n 2, 1) := by decide +kernel
theorem dX5_leat_145 : decode cX5_leat 145 = .ok (.iconst (-1), 1) := by decide +kernel
theorem dX5_leat_146 : decode cX5_leat 146 = .ok (.iastore, 1) := by decide +kernel
theorem dX5_leat_147 : decode cX5_leat 147 = .ok (.iinc 2 1, 3) := by decide +kernel
theorem dX5_leat_150 : decode cX5_leat 150 = .ok (.goto (-15), 3) := by decide +kernel
theorem dX5_leat_153 : decode cX5_leat 153 = .ok (.aload_n 0, 1) := by decide +kernel
theorem dX5_leat_154 : decode cX5_leat 154 = .ok (.getfield 97, 3) := by decide +kernel
theorem dX5_leat_157 : decode cX5_leat 157 = .ok (.ireturn, 1) := by decide +kernel
theorem dX5_now_0 : decode cX5_now 0 = .ok (.bipush 6, 2) := by decide +kernel
theorem dX5_now_2 : decode cX5_now 2 = .ok (.aload_n 0, 1) := by decide +kernel
theorem dX5_now_3 : decode cX5_now 3 = .ok (.getfield 100, 3) := by decide +kernel
theorem dX5_now_6 : decode cX5_now 6 = .ok (.imul, 1) := by decide +kernel
theorem dX5_now_7 : decode cX5_now 7 = .ok (.ireturn, 1) := by decide +kernel
theorem dX5_grindsAs_0 : decode cX5_grindsAs 0 = .ok (.iload_n 0, 1) := by decide +kernel
theorem dX5_grindsAs_1 : decode cX5_grindsAs 1 = .ok (.iconst 1, 1) := by decide +kernel
theorem dX5_grindsAs_2 : decode cX5_grindsAs 2 = .ok (.if_icmp .eq 8, 3) := by decide +kernel
theorem dX5_grindsAs_5 : decode cX5_grindsAs 5 = .ok (.iload_n 0, 1) := by decide +kernel
theorem dX5_grindsAs_6 : decode cX5_grindsAs 6 = .ok (.iconst 4, 1) := by decide +kernel
theorem dX5_grindsAs_7 : decode cX5_grindsAs 7 = .ok (.if_icmp .ne 9, 3) := by decide +kernel
theorem dX5_grindsAs_10 : decode cX5_grindsAs 10 = .ok (.iconst 2, 1) := by decide +kernel
theorem dX5_grindsAs_11 : decode cX5_grindsAs 11 = .ok (.iload_n 1, 1) := by decide +kernel
theorem dX5_grindsAs_12 : decode cX5_grindsAs 12 = .ok (.imul, 1) := by decide +kernel
theorem dX5_grindsAs_13 : decode cX5_grindsAs 13 = .ok (.goto 4, 3) := by decide +kernel
theorem dX5_grindsAs_16 : decode cX5_grindsAs 16 = .ok (.iload_n 1, 1) := by decide +kernel
theorem dX5_grindsAs_17 : decode cX5_grindsAs 17 = .ok (.istore 5, 2) := by decide +kernel
theorem dX5_grindsAs_19 : decode cX5_grindsAs 19 = .ok (.iload_n 0, 1) := by decide +kernel
theorem dX5_grindsAs_20 : decode cX5_grindsAs 20 = .ok (.iconst 2, 1) := by decide +kernel
theorem dX5_grindsAs_21 : decode cX5_grindsAs 21 = .ok (.if_icmp .ne 11, 3) := by decide +kernel
theorem dX5_grindsAs_24 : decode cX5_grindsAs 24 = .ok (.iconst 1, 1) := by decide +kernel
theorem dX5_grindsAs_25 : decode cX5_grindsAs 25 = .ok (.iload_n 3, 1) := by decide +kernel
theorem dX5_grindsAs_26 : decode cX5_grindsAs 26 = .ok (.invokestatic 103, 3) := by decide +kernel
theorem dX5_grindsAs_29 : decode cX5_grindsAs 29 = .ok (.goto 4, 3) := by decide +kernel
theorem dX5_grindsAs_32 : decode cX5_grindsAs 32 = .ok (.iload_n 3, 1) := by decide +kernel
theorem dX5_grindsAs_33 : decode cX5_grindsAs 33 = .ok (.istore 6, 2) := by decide +kernel
theorem dX5_grindsAs_35 : decode cX5_grindsAs 35 = .ok (.iconst 0, 1) := by decide +kernel
theorem dX5_grindsAs_36 : decode cX5_grindsAs 36 = .ok (.iload 5, 2) := by decide +kernel
theorem dX5_grindsAs_38 : decode cX5_grindsAs 38 = .ok (.iload 6, 2) := by decide +kernel
theorem dX5_grindsAs_40 : decode cX5_grindsAs 40 = .ok (.imul, 1) := by decide +kernel
theorem dX5_grindsAs_41 : decode cX5_grindsAs 41 = .ok (.iload 4, 2) := by decide +kernel
theorem dX5_grindsAs_43 : decode cX5_grindsAs 43 = .ok (.isub, 1) := by decide +kernel
theorem dX5_grindsAs_44 : decode cX5_grindsAs 44 = .ok (.invokestatic 106, 3) := by decide +kernel
theorem dX5_grindsAs_47 : decode cX5_grindsAs 47 = .ok (.istore 7, 2) := by decide +kernel
theorem dX5_grindsAs_49 : decode cX5_grindsAs 49 = .ok (.iload_n 0, 1) := by decide +kernel
theorem dX5_grindsAs_50 : decode cX5_grindsAs 50 = .ok (.iconst 4, 1) := by decide +kernel
theorem dX5_grindsAs_51 : decode cX5_grindsAs 51 = .ok (.if_icmp .ne 15, 3) := by decide +kernel
theorem dX5_grindsAs_54 : decode cX5_grindsAs 54 = .ok (.iload_n 3, 1) := by decide +kernel
theorem dX5_grindsAs_55 : decode cX5_grindsAs 55 = .ok (.iconst 4, 1) := by decide +kernel
theorem dX5_grindsAs_56 : decode cX5_grindsAs 56 = .ok (.if_icmp .ne 10, 3) := by decide +kernel
theorem dX5_grindsAs_59 : decode cX5_grindsAs 59 = .ok (.iload 7, 2) := by decide +kernel
theorem dX5_grindsAs_61 : decode cX5_grindsAs 61 = .ok (.iconst 5, 1) := by decide +kernel
theorem dX5_grindsAs_62 : decode cX5_grindsAs 62 = .ok (.iadd, 1) := by decide +kernel
theorem dX5_grindsAs_63 : decode cX5_grindsAs 63 = .ok (.goto 21, 3) := by decide +kernel
theorem dX5_grindsAs_66 : decode cX5_grindsAs 66 = .ok (.iload_n 0, 1) := by decide +kernel
theorem dX5_grindsAs_67 : decode cX5_grindsAs 67 = .ok (.iconst 5, 1) := by decide +kernel
theorem dX5_grindsAs_68 : decode cX5_grindsAs 68 = .ok (.if_icmp .ne 14, 3) := by decide +kernel
theorem dX5_grindsAs_71 : decode cX5_grindsAs 71 = .ok (.iconst 0, 1) := by decide +kernel
theorem dX5_grindsAs_72 : decode cX5_grindsAs 72 = .ok (.iload 7, 2) := by decide +kernel
theorem dX5_grindsAs_74 : decode cX5_grindsAs 74 = .ok (.iload_n 2, 1) := by decide +kernel
theorem dX5_grindsAs_75 : decode cX5_grindsAs 75 = .ok (.isub, 1) := by decide +kernel
theorem dX5_grindsAs_76 : decode cX5_grindsAs 76 = .ok (.invokestatic 106, 3) := by decide +kernel
theorem dX5_grindsAs_79 : decode cX5_grindsAs 79 = .ok (.goto 5, 3) := by decide +kernel
theorem dX5_grindsAs_82 : decode cX5_grindsAs 82 = .ok (.iload 7, 2) := by decide +kernel
theorem dX5_grindsAs_84 : decode cX5_grindsAs 84 = .ok (.ireturn, 1) := by decide +kernel
theorem dX5_leavesAs_0 : decode cX5_leavesAs 0 = .ok (.iload_n 0, 1) := by decide +kernel
theorem dX5_leavesAs_1 : decode cX5_leavesAs 1 = .ok (.iconst 1, 1) := by decide +kernel
theorem dX5_leavesAs_2 : decode cX5_leavesAs 2 = .ok (.if_icmp .eq 8, 3) := by decide +kernel
theorem dX5_leavesAs_5 : decode cX5_leavesAs 5 = .ok (.iload_n 0, 1) := by decide +kernel
theorem dX5_leavesAs_6 : decode cX5_leavesAs 6 = .ok (.iconst 4, 1) := by decide +kernel
theorem dX5_leavesAs_7 : decode cX5_leavesAs 7 = .ok (.if_icmp .ne 9, 3) := by decide +kernel
theorem dX5_leavesAs_10 : decode cX5_leavesAs 10 = .ok (.iload_n 1, 1) := by decide +kernel
theorem dX5_leavesAs_11 : decode cX5_leavesAs 11 = .ok (.iconst 2, 1) := by decide +kernel
theorem dX5_leavesAs_12 : decode cX5_leavesAs 12 = .ok (.idiv, 1) := by decide +kernel
theorem dX5_leavesAs_13 : decode cX5_leavesAs 13 = .ok (.goto 28, 3) := by decide +kernel
theorem dX5_leavesAs_16 : decode cX5_leavesAs 16 = .ok (.iload_n 0, 1) := by decide +kernel
theorem dX5_leavesAs_17 : decode cX5_leavesAs 17 = .ok (.iconst 3, 1) := by decide +kernel
theorem dX5_leavesAs_18 : decode cX5_leavesAs 18 = .ok (.if_icmp .ne 9, 3) := by decide +kernel
theorem dX5_leavesAs_21 : decode cX5_leavesAs 21 = .ok (.iload_n 1, 1) := by decide +kernel
theorem dX5_leavesAs_22 : decode cX5_leavesAs 22 = .ok (.iconst 3, 1) := by decide +kernel
theorem dX5_leavesAs_23 : decode cX5_leavesAs 23 = .ok (.iadd, 1) := by decide +kernel
theorem dX5_leavesAs_24 : decode cX5_leavesAs 24 = .ok (.goto 17, 3) := by decide +kernel
theorem dX5_leavesAs_27 : decode cX5_leavesAs 27 = .ok (.iload_n 0, 1) := by decide +kernel
theorem dX5_leavesAs_28 : decode cX5_leavesAs 28 = .ok (.iconst 5, 1) := by decide +kernel
theorem dX5_leavesAs_29 : decode cX5_leavesAs 29 = .ok (.if_icmp .ne 11, 3) := by decide +kernel
theorem dX5_leavesAs_32 : decode cX5_leavesAs 32 = .ok (.iconst 2, 1) := by decide +kernel
theorem dX5_leavesAs_33 : decode cX5_leavesAs 33 = .ok (.iload_n 1, 1) := by decide +kernel
theorem dX5_leavesAs_34 : decode cX5_leavesAs 34 = .ok (.iconst 3, 1) := by decide +kernel
theorem dX5_leavesAs_35 : decode cX5_leavesAs 35 = .ok (.iadd, 1) := by decide +kernel
theorem dX5_leavesAs_36 : decode cX5_leavesAs 36 = .ok (.imul, 1) := by decide +kernel
theorem dX5_leavesAs_37 : decode cX5_leavesAs 37 = .ok (.goto 4, 3) := by decide +kernel
theorem dX5_leavesAs_40 : decode cX5_leavesAs 40 = .ok (.iload_n 1, 1) := by decide +kernel
theorem dX5_leavesAs_41 : decode cX5_leavesAs 41 = .ok (.ireturn, 1) := by decide +kernel
theorem dX5_driftOf_0 : decode cX5_driftOf 0 = .ok (.aload_n 0, 1) := by decide +kernel
theorem dX5_driftOf_1 : decode cX5_driftOf 1 = .ok (.getfield 41, 3) := by decide +kernel
theorem dX5_driftOf_4 : decode cX5_driftOf 4 = .ok (.iload_n 1, 1) := by decide +kernel
theorem dX5_driftOf_5 : decode cX5_driftOf 5 = .ok (.iconst 5, 1) := by decide +kernel
theorem dX5_driftOf_6 : decode cX5_driftOf 6 = .ok (.iadd, 1) := by decide +kernel
theorem dX5_driftOf_7 : decode cX5_driftOf 7 = .ok (.iaload, 1) := by decide +kernel
theorem dX5_driftOf_8 : decode cX5_driftOf 8 = .ok (.iload_n 2, 1) := by decide +kernel
theorem dX5_driftOf_9 : decode cX5_driftOf 9 = .ok (.invokestatic 109, 3) := by decide +kernel
theorem dX5_driftOf_12 : decode cX5_driftOf 12 = .ok (.ifCond .eq 7, 3) := by decide +kernel
theorem dX5_driftOf_15 : decode cX5_driftOf 15 = .ok (.iconst 0, 1) := by decide +kernel
theorem dX5_driftOf_16 : decode cX5_driftOf 16 = .ok (.goto 9, 3) := by decide +kernel
theorem dX5_driftOf_19 : decode cX5_driftOf 19 = .ok (.aload_n 0, 1) := by decide +kernel
theorem dX5_driftOf_20 : decode cX5_driftOf 20 = .ok (.getfield 29, 3) := by decide +kernel
theorem dX5_driftOf_23 : decode cX5_driftOf 23 = .ok (.iload_n 2, 1) := by decide +kernel
theorem dX5_driftOf_24 : decode cX5_driftOf 24 = .ok (.iaload, 1) := by decide +kernel
theorem dX5_driftOf_25 : decode cX5_driftOf 25 = .ok (.ireturn, 1) := by decide +kernel
theorem dX5_grindsNow_0 : decode cX5_grindsNow 0 = .ok (.aload_n 0, 1) := by decide +kernel
theorem dX5_grindsNow_1 : decode cX5_grindsNow 1 = .ok (.getfield 23, 3) := by decide +kernel
theorem dX5_grindsNow_4 : decode cX5_grindsNow 4 = .ok (.iload_n 2, 1) := by decide +kernel
theorem dX5_grindsNow_5 : decode cX5_grindsNow 5 = .ok (.iaload, 1) := by decide +kernel
theorem dX5_grindsNow_6 : decode cX5_grindsNow 6 = .ok (.aload_n 0, 1) := by decide +kernel
theorem dX5_grindsNow_7 : decode cX5_grindsNow 7 = .ok (.getfield 26, 3) := by decide +kernel
theorem dX5_grindsNow_10 : decode cX5_grindsNow 10 = .ok (.iload_n 2, 1) := by decide +kernel
theorem dX5_grindsNow_11 : decode cX5_grindsNow 11 = .ok (.iaload, 1) := by decide +kernel
theorem dX5_grindsNow_12 : decode cX5_grindsNow 12 = .ok (.aload_n 0, 1) := by decide +kernel
theorem dX5_grindsNow_13 : decode cX5_grindsNow 13 = .ok (.iload_n 1, 1) := by decide +kernel
theorem dX5_grindsNow_14 : decode cX5_grindsNow 14 = .ok (.iload_n 2, 1) := by decide +kernel
theorem dX5_grindsNow_15 : decode cX5_grindsNow 15 = .ok (.invokevirtual 113, 3) := by decide +kernel
theorem dX5_grindsNow_18 : decode cX5_grindsNow 18 = .ok (.aload_n 0, 1) := by decide +kernel
theorem dX5_grindsNow_19 : decode cX5_grindsNow 19 = .ok (.getfield 41, 3) := by decide +kernel
theorem dX5_grindsNow_22 : decode cX5_grindsNow 22 = .ok (.iload_n 1, 1) := by decide +kernel
theorem dX5_grindsNow_23 : decode cX5_grindsNow 23 = .ok (.iconst 1, 1) := by decide +kernel
theorem dX5_grindsNow_24 : decode cX5_grindsNow 24 = .ok (.iadd, 1) := by decide +kernel
theorem dX5_grindsNow_25 : decode cX5_grindsNow 25 = .ok (.iaload, 1) := by decide +kernel
theorem dX5_grindsNow_26 : decode cX5_grindsNow 26 = .ok (.aload_n 0, 1) := by decide +kernel
theorem dX5_grindsNow_27 : decode cX5_grindsNow 27 = .ok (.getfield 41, 3) := by decide +kernel
theorem dX5_grindsNow_30 : decode cX5_grindsNow 30 = .ok (.iload_n 1, 1) := by decide +kernel
theorem dX5_grindsNow_31 : decode cX5_grindsNow 31 = .ok (.iconst 2, 1) := by decide +kernel
theorem dX5_grindsNow_32 : decode cX5_grindsNow 32 = .ok (.iadd, 1) := by decide +kernel
theorem dX5_grindsNow_33 : decode cX5_grindsNow 33 = .ok (.iaload, 1) := by decide +kernel
theorem dX5_grindsNow_34 : decode cX5_grindsNow 34 = .ok (.invokestatic 116, 3) := by decide +kernel
theorem dX5_grindsNow_37 : decode cX5_grindsNow 37 = .ok (.ireturn, 1) := by decide +kernel
theorem dX5_leavesNow_0 : decode cX5_leavesNow 0 = .ok (.aload_n 0, 1) := by decide +kernel
theorem dX5_leavesNow_1 : decode cX5_leavesNow 1 = .ok (.getfield 23, 3) := by decide +kernel
theorem dX5_leavesNow_4 : decode cX5_leavesNow 4 = .ok (.iload_n 2, 1) := by decide +kernel
theorem dX5_leavesNow_5 : decode cX5_leavesNow 5 = .ok (.iaload, 1) := by decide +kernel
theorem dX5_leavesNow_6 : decode cX5_leavesNow 6 = .ok (.aload_n 0, 1) := by decide +kernel
theorem dX5_leavesNow_7 : decode cX5_leavesNow 7 = .ok (.iload_n 1, 1) := by decide +kernel
theorem dX5_leavesNow_8 : decode cX5_leavesNow 8 = .ok (.iload_n 2, 1) := by decide +kernel
theorem dX5_leavesNow_9 : decode cX5_leavesNow 9 = .ok (.invokevirtual 113, 3) := by decide +kernel
theorem dX5_leavesNow_12 : decode cX5_leavesNow 12 = .ok (.invokestatic 120, 3) := by decide +kernel
theorem dX5_leavesNow_15 : decode cX5_leavesNow 15 = .ok (.ireturn, 1) := by decide +kernel
theorem dX5_isDay_0 : decode cX5_isDay 0 = .ok (.iload_n 1, 1) := by decide +kernel
theorem dX5_isDay_1 : decode cX5_isDay 1 = .ok (.i2l, 1) := by decide +kernel
theorem dX5_isDay_2 : decode cX5_isDay 2 = .ok (.lconst 0, 1) := by decide +kernel
theorem dX5_isDay_3 : decode cX5_isDay 3 = .ok (.aload_n 0, 1) := by decide +kernel
theorem dX5_isDay_4 : decode cX5_isDay 4 = .ok (.getfield 97, 3) := by decide +kernel
theorem dX5_isDay_7 : decode cX5_isDay 7 = .ok (.iconst 1, 1) := by decide +kernel
theorem dX5_isDay_8 : decode cX5_isDay 8 = .ok (.isub, 1) := by decide +kernel
theorem dX5_isDay_9 : decode cX5_isDay 9 = .ok (.i2l, 1) := by decide +kernel
theorem dX5_isDay_10 : decode cX5_isDay 10 = .ok (.invokestatic 63, 3) := by decide +kernel
theorem dX5_isDay_13 : decode cX5_isDay 13 = .ok (.ireturn, 1) := by decide +kernel
theorem dX5_dayTold_0 : decode cX5_dayTold 0 = .ok (.aload_n 0, 1) := by decide +kernel
theorem dX5_dayTold_1 : decode cX5_dayTold 1 = .ok (.invokevirtual 123, 3) := by decide +kernel
theorem dX5_dayTold_4 : decode cX5_dayTold 4 = .ok (.istore_n 3, 1) := by decide +kernel
theorem dX5_dayTold_5 : decode cX5_dayTold 5 = .ok (.iload_n 2, 1) := by decide +kernel
theorem dX5_dayTold_6 : decode cX5_dayTold 6 = .ok (.ifCond .ne 12, 3) := by decide +kernel
theorem dX5_dayTold_9 : decode cX5_dayTold 9 = .ok (.aload_n 0, 1) := by decide +kernel
theorem dX5_dayTold_10 : decode cX5_dayTold 10 = .ok (.getfield 23, 3) := by decide +kernel
theorem dX5_dayTold_13 : decode cX5_dayTold 13 = .ok (.iload_n 1, 1) := by decide +kernel
theorem dX5_dayTold_14 : decode cX5_dayTold 14 = .ok (.iaload, 1) := by decide +kernel
theorem dX5_dayTold_15 : decode cX5_dayTold 15 = .ok (.goto 71, 3) := by decide +kernel
theorem dX5_dayTold_18 : decode cX5_dayTold 18 = .ok (.iload_n 2, 1) := by decide +kernel
theorem dX5_dayTold_19 : decode cX5_dayTold 19 = .ok (.iconst 1, 1) := by decide +kernel
theorem dX5_dayTold_20 : decode cX5_dayTold 20 = .ok (.if_icmp .ne 12, 3) := by decide +kernel
theorem dX5_dayTold_23 : decode cX5_dayTold 23 = .ok (.aload_n 0, 1) := by decide +kernel
theorem dX5_dayTold_24 : decode cX5_dayTold 24 = .ok (.getfield 26, 3) := by decide +kernel
theorem dX5_dayTold_27 : decode cX5_dayTold 27 = .ok (.iload_n 1, 1) := by decide +kernel
theorem dX5_dayTold_28 : decode cX5_dayTold 28 = .ok (.iaload, 1) := by decide +kernel
theorem dX5_dayTold_29 : decode cX5_dayTold 29 = .ok (.goto 57, 3) := by decide +kernel
theorem dX5_dayTold_32 : decode cX5_dayTold 32 = .ok (.iload_n 2, 1) := by decide +kernel
theorem dX5_dayTold_33 : decode cX5_dayTold 33 = .ok (.iconst 2, 1) := by decide +kernel
theorem dX5_dayTold_34 : decode cX5_dayTold 34 = .ok (.if_icmp .ne 12, 3) := by decide +kernel
theorem dX5_dayTold_37 : decode cX5_dayTold 37 = .ok (.aload_n 0, 1) := by decide +kernel
theorem dX5_dayTold_38 : decode cX5_dayTold 38 = .ok (.iload_n 3, 1) := by decide +kernel
theorem dX5_dayTold_39 : decode cX5_dayTold 39 = .ok (.iload_n 1, 1) := by decide +kernel
theorem dX5_dayTold_40 : decode cX5_dayTold 40 = .ok (.invokevirtual 113, 3) := by decide +kernel
theorem dX5_dayTold_43 : decode cX5_dayTold 43 = .ok (.goto 43, 3) := by decide +kernel
theorem dX5_dayTold_46 : decode cX5_dayTold 46 = .ok (.iload_n 2, 1) := by decide +kernel
theorem dX5_dayTold_47 : decode cX5_dayTold 47 = .ok (.iconst 3, 1) := by decide +kernel
theorem dX5_dayTold_48 : decode cX5_dayTold 48 = .ok (.if_icmp .ne 12, 3) := by decide +kernel
theorem dX5_dayTold_51 : decode cX5_dayTold 51 = .ok (.aload_n 0, 1) := by decide +kernel
theorem dX5_dayTold_52 : decode cX5_dayTold 52 = .ok (.iload_n 3, 1) := by decide +kernel
theorem dX5_dayTold_53 : decode cX5_dayTold 53 = .ok (.iload_n 1, 1) := by decide +kernel
theorem dX5_dayTold_54 : decode cX5_dayTold 54 = .ok (.invokevirtual 127, 3) := by decide +kernel
theorem dX5_dayTold_57 : decode cX5_dayTold 57 = .ok (.goto 29, 3) := by decide +kernel
theorem dX5_dayTold_60 : decode cX5_dayTold 60 = .ok (.iload_n 2, 1) := by decide +kernel
theorem dX5_dayTold_61 : decode cX5_dayTold 61 = .ok (.iconst 4, 1) := by decide +kernel
theorem dX5_dayTold_62 : decode cX5_dayTold 62 = .ok (.if_icmp .ne 12, 3) := by decide +kernel
theorem dX5_dayTold_65 : decode cX5_dayTold 65 = .ok (.aload_n 0, 1) := by decide +kernel
theorem dX5_dayTold_66 : decode cX5_dayTold 66 = .ok (.iload_n 3, 1) := by decide +kernel
theorem dX5_dayTold_67 : decode cX5_dayTold 67 = .ok (.iload_n 1, 1) := by decide +kernel
theorem dX5_dayTold_68 : decode cX5_dayTold 68 = .ok (.invokevirtual 130, 3) := by decide +kernel
theorem dX5_dayTold_71 : decode cX5_dayTold 71 = .ok (.goto 15, 3) := by decide +kernel
theorem dX5_dayTold_74 : decode cX5_dayTold 74 = .ok (.aload_n 0, 1) := by decide +kernel
theorem dX5_dayTold_75 : decode cX5_dayTold 75 = .ok (.getfield 41, 3) := by decide +kernel
theorem dX5_dayTold_78 : decode cX5_dayTold 78 = .ok (.iload_n 3, 1) := by decide +kernel
theorem dX5_dayTold_79 : decode cX5_dayTold 79 = .ok (.iconst 5, 1) := by decide +kernel
theorem dX5_dayTold_80 : decode cX5_dayTold 80 = .ok (.iadd, 1) := by decide +kernel
theorem dX5_dayTold_81 : decode cX5_dayTold 81 = .ok (.iaload, 1) := by decide +kernel
theorem dX5_dayTold_82 : decode cX5_dayTold 82 = .ok (.iload_n 1, 1) := by decide +kernel
theorem dX5_dayTold_83 : decode cX5_dayTold 83 = .ok (.ishr, 1) := by decide +kernel
theorem dX5_dayTold_84 : decode cX5_dayTold 84 = .ok (.iconst 1, 1) := by decide +kernel
theorem dX5_dayTold_85 : decode cX5_dayTold 85 = .ok (.iand, 1) := by decide +kernel
theorem dX5_dayTold_86 : decode cX5_dayTold 86 = .ok (.ireturn, 1) := by decide +kernel
theorem dX5_day_0 : decode cX5_day 0 = .ok (.aload_n 0, 1) := by decide +kernel
theorem dX5_day_1 : decode cX5_day 1 = .ok (.iload_n 1, 1) := by decide +kernel
theorem dX5_day_2 : decode cX5_day 2 = .ok (.invokevirtual 133, 3) := by decide +kernel
theorem dX5_day_5 : decode cX5_day 5 = .ok (.ifCond .eq 15, 3) := by decide +kernel
theorem dX5_day_8 : decode cX5_day 8 = .ok (.iload_n 2, 1) := by decide +kernel
theorem dX5_day_9 : decode cX5_day 9 = .ok (.i2l, 1) := by decide +kernel
theorem dX5_day_10 : decode cX5_day 10 = .ok (.lconst 0, 1) := by decide +kernel
theorem dX5_day_11 : decode cX5_day 11 = .ok (.ldc2_w 61, 3) := by decide +kernel
theorem dX5_day_14 : decode cX5_day 14 = .ok (.invokestatic 63, 3) := by decide +kernel
theorem dX5_day_17 : decode cX5_day 17 = .ok (.ifCond .ne 5, 3) := by decide +kernel
theorem dX5_day_20 : decode cX5_day 20 = .ok (.iconst (-1), 1) := by decide +kernel
theorem dX5_day_21 : decode cX5_day 21 = .ok (.ireturn, 1) := by decide +kernel
theorem dX5_day_22 : decode cX5_day 22 = .ok (.aload_n 0, 1) := by decide +kernel
theorem dX5_day_23 : decode cX5_day 23 = .ok (.aload_n 0, 1) := by decide +kernel
theorem dX5_day_24 : decode cX5_day 24 = .ok (.iload_n 1, 1) := by decide +kernel
theorem dX5_day_25 : decode cX5_day 25 = .ok (.iload_n 2, 1) := by decide +kernel
theorem dX5_day_26 : decode cX5_day 26 = .ok (.invokevirtual 137, 3) := by decide +kernel
theorem dX5_day_29 : decode cX5_day 29 = .ok (.putfield 75, 3) := by decide +kernel
theorem dX5_day_32 : decode cX5_day 32 = .ok (.iconst 1, 1) := by decide +kernel
theorem dX5_day_33 : decode cX5_day 33 = .ok (.ireturn, 1) := by decide +kernel
theorem dX5_isOf_0 : decode cX5_isOf 0 = .ok (.iload_n 0, 1) := by decide +kernel
theorem dX5_isOf_1 : decode cX5_isOf 1 = .ok (.iload_n 1, 1) := by decide +kernel
theorem dX5_isOf_2 : decode cX5_isOf 2 = .ok (.if_icmp .eq 23, 3) := by decide +kernel
theorem dX5_isOf_5 : decode cX5_isOf 5 = .ok (.iload_n 0, 1) := by decide +kernel
theorem dX5_isOf_6 : decode cX5_isOf 6 = .ok (.iconst 4, 1) := by decide +kernel
theorem dX5_isOf_7 : decode cX5_isOf 7 = .ok (.if_icmp .ne 8, 3) := by decide +kernel
theorem dX5_isOf_10 : decode cX5_isOf 10 = .ok (.iload_n 1, 1) := by decide +kernel
theorem dX5_isOf_11 : decode cX5_isOf 11 = .ok (.iconst 1, 1) := by decide +kernel
theorem dX5_isOf_12 : decode cX5_isOf 12 = .ok (.if_icmp .eq 13, 3) := by decide +kernel
theorem dX5_isOf_15 : decode cX5_isOf 15 = .ok (.iload_n 0, 1) := by decide +kernel
theorem dX5_isOf_16 : decode cX5_isOf 16 = .ok (.iconst 5, 1) := by decide +kernel
theorem dX5_isOf_17 : decode cX5_isOf 17 = .ok (.if_icmp .ne 12, 3) := by decide +kernel
theorem dX5_isOf_20 : decode cX5_isOf 20 = .ok (.iload_n 1, 1) := by decide +kernel
theorem dX5_isOf_21 : decode cX5_isOf 21 = .ok (.iconst 3, 1) := by decide +kernel
theorem dX5_isOf_22 : decode cX5_isOf 22 = .ok (.if_icmp .ne 7, 3) := by decide +kernel
theorem dX5_isOf_25 : decode cX5_isOf 25 = .ok (.iconst 1, 1) := by decide +kernel
theorem dX5_isOf_26 : decode cX5_isOf 26 = .ok (.goto 4, 3) := by decide +kernel
theorem dX5_isOf_29 : decode cX5_isOf 29 = .ok (.iconst 0, 1) := by decide +kernel
theorem dX5_isOf_30 : decode cX5_isOf 30 = .ok (.ireturn, 1) := by decide +kernel
theorem dX5_mark_0 : decode cX5_mark 0 = .ok (.aload_n 0, 1) := by decide +kernel
theorem dX5_mark_1 : decode cX5_mark 1 = .ok (.iload_n 1, 1) := by decide +kernel
theorem dX5_mark_2 : decode cX5_mark 2 = .ok (.invokevirtual 133, 3) := by decide +kernel
theorem dX5_mark_5 : decode cX5_mark 5 = .ok (.ifCond .eq 15, 3) := by decide +kernel
theorem dX5_mark_8 : decode cX5_mark 8 = .ok (.iload_n 2, 1) := by decide +kernel
theorem dX5_mark_9 : decode cX5_mark 9 = .ok (.i2l, 1) := by decide +kernel
theorem dX5_mark_10 : decode cX5_mark 10 = .ok (.lconst 1, 1) := by decide +kernel
theorem dX5_mark_11 : decode cX5_mark 11 = .ok (.ldc2_w 61, 3) := by decide +kernel
theorem dX5_mark_14 : decode cX5_mark 14 = .ok (.invokestatic 63, 3) := by decide +kernel
theorem dX5_mark_17 : decode cX5_mark 17 = .ok (.ifCond .ne 5, 3) := by decide +kernel
theorem dX5_mark_20 : decode cX5_mark 20 = .ok (.iconst (-1), 1) := by decide +kernel
theorem dX5_mark_21 : decode cX5_mark 21 = .ok (.ireturn, 1) := by decide +kernel
theorem dX5_mark_22 : decode cX5_mark 22 = .ok (.aload_n 0, 1) := by decide +kernel
theorem dX5_mark_23 : decode cX5_mark 23 = .ok (.getfield 23, 3) := by decide +kernel
theorem dX5_mark_26 : decode cX5_mark 26 = .ok (.iload_n 1, 1) := by decide +kernel
theorem dX5_mark_27 : decode cX5_mark 27 = .ok (.iaload, 1) := by decide +kernel
theorem dX5_mark_28 : decode cX5_mark 28 = .ok (.iload_n 2, 1) := by decide +kernel
theorem dX5_mark_29 : decode cX5_mark 29 = .ok (.invokestatic 140, 3) := by decide +kernel
theorem dX5_mark_32 : decode cX5_mark 32 = .ok (.ifCond .ne 9, 3) := by decide +kernel
theorem dX5_mark_35 : decode cX5_mark 35 = .ok (.aload_n 0, 1) := by decide +kernel
theorem dX5_mark_36 : decode cX5_mark 36 = .ok (.iconst 3, 1) := by decide +kernel
theorem dX5_mark_37 : decode cX5_mark 37 = .ok (.invokevirtual 67, 3) := by decide +kernel
theorem dX5_mark_40 : decode cX5_mark 40 = .ok (.ireturn, 1) := by decide +kernel
theorem dX5_mark_41 : decode cX5_mark 41 = .ok (.aload_n 0, 1) := by decide +kernel
theorem dX5_mark_42 : decode cX5_mark 42 = .ok (.invokevirtual 123, 3) := by decide +kernel
theorem dX5_mark_45 : decode cX5_mark 45 = .ok (.istore_n 3, 1) := by decide +kernel
theorem dX5_mark_46 : decode cX5_mark 46 = .ok (.aload_n 0, 1) := by decide +kernel
theorem dX5_mark_47 : decode cX5_mark 47 = .ok (.iload_n 3, 1) := by decide +kernel
theorem dX5_mark_48 : decode cX5_mark 48 = .ok (.iload_n 1, 1) := by decide +kernel
theorem dX5_mark_49 : decode cX5_mark 49 = .ok (.invokevirtual 113, 3) := by decide +kernel
theorem dX5_mark_52 : decode cX5_mark 52 = .ok (.istore 4, 2) := by decide +kernel
theorem dX5_mark_54 : decode cX5_mark 54 = .ok (.aload_n 0, 1) := by decide +kernel
theorem dX5_mark_55 : decode cX5_mark 55 = .ok (.getfield 41, 3) := by decide +kernel
theorem dX5_mark_58 : decode cX5_mark 58 = .ok (.iload_n 3, 1) := by decide +kernel
theorem dX5_mark_59 : decode cX5_mark 59 = .ok (.iconst 1, 1) := by decide +kernel
theorem dX5_mark_60 : decode cX5_mark 60 = .ok (.iadd, 1) := by decide +kernel
theorem dX5_mark_61 : decode cX5_mark 61 = .ok (.iaload, 1) := by decide +kernel
theorem dX5_mark_62 : decode cX5_mark 62 = .ok (.istore 5, 2) := by decide +kernel
theorem dX5_mark_64 : decode cX5_mark 64 = .ok (.aload_n 0, 1) := by decide +kernel
theorem dX5_mark_65 : decode cX5_mark 65 = .ok (.getfield 41, 3) := by decide +kernel
theorem dX5_mark_68 : decode cX5_mark 68 = .ok (.iload_n 3, 1) := by decide +kernel
theorem dX5_mark_69 : decode cX5_mark 69 = .ok (.iconst 2, 1) := by decide +kernel
theorem dX5_mark_70 : decode cX5_mark 70 = .ok (.iadd, 1) := by decide +kernel
theorem dX5_mark_71 : decode cX5_mark 71 = .ok (.iaload, 1) := by decide +kernel
theorem dX5_mark_72 : decode cX5_mark 72 = .ok (.istore 6, 2) := by decide +kernel
theorem dX5_mark_74 : decode cX5_mark 74 = .ok (.iload_n 2, 1) := by decide +kernel
theorem dX5_mark_75 : decode cX5_mark 75 = .ok (.iconst 4, 1) := by decide +kernel
theorem dX5_mark_76 : decode cX5_mark 76 = .ok (.if_icmp .ne 7, 3) := by decide +kernel
theorem dX5_mark_79 : decode cX5_mark 79 = .ok (.iconst 1, 1) := by decide +kernel
theorem dX5_mark_80 : decode cX5_mark 80 = .ok (.goto 13, 3) := by decide +kernel
theorem dX5_mark_83 : decode cX5_mark 83 = .ok (.iload_n 2, 1) := by decide +kernel
theorem dX5_mark_84 : decode cX5_mark 84 = .ok (.iconst 5, 1) := by decide +kernel
theorem dX5_mark_85 : decode cX5_mark 85 = .ok (.if_icmp .ne 7, 3) := by decide +kernel
theorem dX5_mark_88 : decode cX5_mark 88 = .ok (.iconst 3, 1) := by decide +kernel
theorem dX5_mark_89 : decode cX5_mark 89 = .ok (.goto 4, 3) := by decide +kernel
theorem dX5_mark_92 : decode cX5_mark 92 = .ok (.iconst 0, 1) := by decide +kernel
theorem dX5_mark_93 : decode cX5_mark 93 = .ok (.istore 7, 2) := by decide +kernel
theorem dX5_mark_95 : decode cX5_mark 95 = .ok (.iload_n 2, 1) := by decide +kernel
theorem dX5_mark_96 : decode cX5_mark 96 = .ok (.iconst 3, 1) := by decide +kernel
theorem dX5_mark_97 : decode cX5_mark 97 = .ok (.if_icmp .eq 8, 3) := by decide +kernel
theorem dX5_mark_100 : decode cX5_mark 100 = .ok (.iload_n 2, 1) := by decide +kernel
theorem dX5_mark_101 : decode cX5_mark 101 = .ok (.iconst 5, 1) := by decide +kernel
theorem dX5_mark_102 : decode cX5_mark 102 = .ok (.if_icmp .ne 7, 3) := by decide +kernel
theorem dX5_mark_105 : decode cX5_mark 105 = .ok (.iconst 1, 1) := by decide +kernel
theorem dX5_mark_106 : decode cX5_mark 106 = .ok (.goto 4, 3) := by decide +kernel
theorem dX5_mark_109 : decode cX5_mark 109 = .ok (.iconst 0, 1) := by decide +kernel
theorem dX5_mark_110 : decode cX5_mark 110 = .ok (.istore 8, 2) := by decide +kernel
theorem dX5_mark_112 : decode cX5_mark 112 = .ok (.iload 8, 2) := by decide +kernel
theorem dX5_mark_114 : decode cX5_mark 114 = .ok (.ifCond .eq 25, 3) := by decide +kernel
theorem dX5_mark_117 : decode cX5_mark 117 = .ok (.aload_n 0, 1) := by decide +kernel
theorem dX5_mark_118 : decode cX5_mark 118 = .ok (.getfield 23, 3) := by decide +kernel
theorem dX5_mark_121 : decode cX5_mark 121 = .ok (.iload_n 1, 1) := by decide +kernel
theorem dX5_mark_122 : decode cX5_mark 122 = .ok (.iaload, 1) := by decide +kernel
theorem dX5_mark_123 : decode cX5_mark 123 = .ok (.iload 4, 2) := by decide +kernel
theorem dX5_mark_125 : decode cX5_mark 125 = .ok (.invokestatic 120, 3) := by decide +kernel
theorem dX5_mark_128 : decode cX5_mark 128 = .ok (.iload 7, 2) := by decide +kernel
theorem dX5_mark_130 : decode cX5_mark 130 = .ok (.iload 4, 2) := by decide +kernel
theorem dX5_mark_132 : decode cX5_mark 132 = .ok (.invokestatic 120, 3) := by decide +kernel
theorem dX5_mark_135 : decode cX5_mark 135 = .ok (.isub, 1) := by decide +kernel
theorem dX5_mark_136 : decode cX5_mark 136 = .ok (.goto 42, 3) := by decide +kernel
theorem dX5_mark_139 : decode cX5_mark 139 = .ok (.aload_n 0, 1) := by decide +kernel
theorem dX5_mark_140 : decode cX5_mark 140 = .ok (.getfield 23, 3) := by decide +kernel
theorem dX5_mark_143 : decode cX5_mark 143 = .ok (.iload_n 1, 1) := by decide +kernel
theorem dX5_mark_144 : decode cX5_mark 144 = .ok (.iaload, 1) := by decide +kernel
theorem dX5_mark_145 : decode cX5_mark 145 = .ok (.aload_n 0, 1) := by decide +kernel
theorem dX5_mark_146 : decode cX5_mark 146 = .ok (.getfield 26, 3) := by decide +kernel
theorem dX5_mark_149 : decode cX5_mark 149 = .ok (.iload_n 1, 1) := by decide +kernel
theorem dX5_mark_150 : decode cX5_mark 150 = .ok (.iaload, 1) := by decide +kernel
theorem dX5_mark_151 : decode cX5_mark 151 = .ok (.iload 4, 2) := by decide +kernel
theorem dX5_mark_153 : decode cX5_mark 153 = .ok (.iload 5, 2) := by decide +kernel
theorem dX5_mark_155 : decode cX5_mark 155 = .ok (.iload 6, 2) := by decide +kernel
theorem dX5_mark_157 : decode cX5_mark 157 = .ok (.invokestatic 116, 3) := by decide +kernel
theorem dX5_mark_160 : decode cX5_mark 160 = .ok (.iload 7, 2) := by decide +kernel
theorem dX5_mark_162 : decode cX5_mark 162 = .ok (.aload_n 0, 1) := by decide +kernel
theorem dX5_mark_163 : decode cX5_mark 163 = .ok (.getfield 26, 3) := by decide +kernel
theorem dX5_mark_166 : decode cX5_mark 166 = .ok (.iload_n 1, 1) := by decide +kernel
theorem dX5_mark_167 : decode cX5_mark 167 = .ok (.iaload, 1) := by decide +kernel
theorem dX5_mark_168 : decode cX5_mark 168 = .ok (.iload 4, 2) := by decide +kernel
theorem dX5_mark_170 : decode cX5_mark 170 = .ok (.iload 5, 2) := by decide +kernel
theorem dX5_mark_172 : decode cX5_mark 172 = .ok (.iload 6, 2) := by decide +kernel
theorem dX5_mark_174 : decode cX5_mark 174 = .ok (.invokestatic 116, 3) := by decide +kernel
theorem dX5_mark_177 : decode cX5_mark 177 = .ok (.isub, 1) := by decide +kernel
theorem dX5_mark_178 : decode cX5_mark 178 = .ok (.istore 9, 2) := by decide +kernel
theorem dX5_mark_180 : decode cX5_mark 180 = .ok (.iload 9, 2) := by decide +kernel
theorem dX5_mark_182 : decode cX5_mark 182 = .ok (.bipush 100, 2) := by decide +kernel
theorem dX5_mark_184 : decode cX5_mark 184 = .ok (.iadd, 1) := by decide +kernel
theorem dX5_mark_185 : decode cX5_mark 185 = .ok (.ireturn, 1) := by decide +kernel
theorem dX5_grinds_0 : decode cX5_grinds 0 = .ok (.aload_n 0, 1) := by decide +kernel
theorem dX5_grinds_1 : decode cX5_grinds 1 = .ok (.iload_n 1, 1) := by decide +kernel
theorem dX5_grinds_2 : decode cX5_grinds 2 = .ok (.invokevirtual 133, 3) := by decide +kernel
theorem dX5_grinds_5 : decode cX5_grinds 5 = .ok (.ifCond .eq 27, 3) := by decide +kernel
theorem dX5_grinds_8 : decode cX5_grinds 8 = .ok (.iload_n 2, 1) := by decide +kernel
theorem dX5_grinds_9 : decode cX5_grinds 9 = .ok (.i2l, 1) := by decide +kernel
theorem dX5_grinds_10 : decode cX5_grinds 10 = .ok (.lconst 0, 1) := by decide +kernel
theorem dX5_grinds_11 : decode cX5_grinds 11 = .ok (.ldc2_w 143, 3) := by decide +kernel
theorem dX5_grinds_14 : decode cX5_grinds 14 = .ok (.invokestatic 63, 3) := by decide +kernel
theorem dX5_grinds_17 : decode cX5_grinds 17 = .ok (.ifCond .eq 15, 3) := by decide +kernel
theorem dX5_grinds_20 : decode cX5_grinds 20 = .ok (.iload_n 3, 1) := by decide +kernel
theorem dX5_grinds_21 : decode cX5_grinds 21 = .ok (.i2l, 1) := by decide +kernel
theorem dX5_grinds_22 : decode cX5_grinds 22 = .ok (.lconst 0, 1) := by decide +kernel
theorem dX5_grinds_23 : decode cX5_grinds 23 = .ok (.ldc2_w 145, 3) := by decide +kernel
theorem dX5_grinds_26 : decode cX5_grinds 26 = .ok (.invokestatic 63, 3) := by decide +kernel
theorem dX5_grinds_29 : decode cX5_grinds 29 = .ok (.ifCond .ne 5, 3) := by decide +kernel
theorem dX5_grinds_32 : decode cX5_grinds 32 = .ok (.iconst (-1), 1) := by decide +kernel
theorem dX5_grinds_33 : decode cX5_grinds 33 = .ok (.ireturn, 1) := by decide +kernel
theorem dX5_grinds_34 : decode cX5_grinds 34 = .ok (.aload_n 0, 1) := by decide +kernel
theorem dX5_grinds_35 : decode cX5_grinds 35 = .ok (.getfield 23, 3) := by decide +kernel
theorem dX5_grinds_38 : decode cX5_grinds 38 = .ok (.iload_n 1, 1) := by decide +kernel
theorem dX5_grinds_39 : decode cX5_grinds 39 = .ok (.iaload, 1) := by decide +kernel
theorem dX5_grinds_40 : decode cX5_grinds 40 = .ok (.aload_n 0, 1) := by decide +kernel
theorem dX5_grinds_41 : decode cX5_grinds 41 = .ok (.getfield 26, 3) := by decide +kernel
theorem dX5_grinds_44 : decode cX5_grinds 44 = .ok (.iload_n 1, 1) := by decide +kernel
theorem dX5_grinds_45 : decode cX5_grinds 45 = .ok (.iaload, 1) := by decide +kernel
theorem dX5_grinds_46 : decode cX5_grinds 46 = .ok (.aload_n 0, 1) := by decide +kernel
theorem dX5_grinds_47 : decode cX5_grinds 47 = .ok (.aload_n 0, 1) := by decide +kernel
theorem dX5_grinds_48 : decode cX5_grinds 48 = .ok (.invokevirtual 123, 3) := by decide +kernel
theorem dX5_grinds_51 : decode cX5_grinds 51 = .ok (.iload_n 1, 1) := by decide +kernel
theorem dX5_grinds_52 : decode cX5_grinds 52 = .ok (.invokevirtual 113, 3) := by decide +kernel
theorem dX5_grinds_55 : decode cX5_grinds 55 = .ok (.iload_n 2, 1) := by decide +kernel
theorem dX5_grinds_56 : decode cX5_grinds 56 = .ok (.iload_n 3, 1) := by decide +kernel
theorem dX5_grinds_57 : decode cX5_grinds 57 = .ok (.invokestatic 116, 3) := by decide +kernel
theorem dX5_grinds_60 : decode cX5_grinds 60 = .ok (.ireturn, 1) := by decide +kernel
theorem dX5_steps_0 : decode cX5_steps 0 = .ok (.aload_n 0, 1) := by decide +kernel
theorem dX5_steps_1 : decode cX5_steps 1 = .ok (.getfield 41, 3) := by decide +kernel
theorem dX5_steps_4 : decode cX5_steps 4 = .ok (.iload_n 1, 1) := by decide +kernel
theorem dX5_steps_5 : decode cX5_steps 5 = .ok (.iconst 0, 1) := by decide +kernel
theorem dX5_steps_6 : decode cX5_steps 6 = .ok (.iadd, 1) := by decide +kernel
theorem dX5_steps_7 : decode cX5_steps 7 = .ok (.iaload, 1) := by decide +kernel
theorem dX5_steps_8 : decode cX5_steps 8 = .ok (.istore_n 3, 1) := by decide +kernel
theorem dX5_steps_9 : decode cX5_steps 9 = .ok (.iload_n 2, 1) := by decide +kernel
theorem dX5_steps_10 : decode cX5_steps 10 = .ok (.ifCond .eq 7, 3) := by decide +kernel
theorem dX5_steps_13 : decode cX5_steps 13 = .ok (.iconst 0, 1) := by decide +kernel
theorem dX5_steps_14 : decode cX5_steps 14 = .ok (.goto 9, 3) := by decide +kernel
theorem dX5_steps_17 : decode cX5_steps 17 = .ok (.aload_n 0, 1) := by decide +kernel
theorem dX5_steps_18 : decode cX5_steps 18 = .ok (.iload_n 1, 1) := by decide +kernel
theorem dX5_steps_19 : decode cX5_steps 19 = .ok (.iload_n 3, 1) := by decide +kernel
theorem dX5_steps_20 : decode cX5_steps 20 = .ok (.invokevirtual 127, 3) := by decide +kernel
theorem dX5_steps_23 : decode cX5_steps 23 = .ok (.istore 4, 2) := by decide +kernel
theorem dX5_steps_25 : decode cX5_steps 25 = .ok (.aload_n 0, 1) := by decide +kernel
theorem dX5_steps_26 : decode cX5_steps 26 = .ok (.getfield 41, 3) := by decide +kernel
theorem dX5_steps_29 : decode cX5_steps 29 = .ok (.iload_n 1, 1) := by decide +kernel
theorem dX5_steps_30 : decode cX5_steps 30 = .ok (.iconst 2, 1) := by decide +kernel
theorem dX5_steps_31 : decode cX5_steps 31 = .ok (.iadd, 1) := by decide +kernel
theorem dX5_steps_32 : decode cX5_steps 32 = .ok (.bipush 40, 2) := by decide +kernel
theorem dX5_steps_34 : decode cX5_steps 34 = .ok (.aload_n 0, 1) := by decide +kernel
theorem dX5_steps_35 : decode cX5_steps 35 = .ok (.getfield 41, 3) := by decide +kernel
theorem dX5_steps_38 : decode cX5_steps 38 = .ok (.iload_n 1, 1) := by decide +kernel
theorem dX5_steps_39 : decode cX5_steps 39 = .ok (.iconst 2, 1) := by decide +kernel
theorem dX5_steps_40 : decode cX5_steps 40 = .ok (.iadd, 1) := by decide +kernel
theorem dX5_steps_41 : decode cX5_steps 41 = .ok (.iaload, 1) := by decide +kernel
theorem dX5_steps_42 : decode cX5_steps 42 = .ok (.iload_n 2, 1) := by decide +kernel
theorem dX5_steps_43 : decode cX5_steps 43 = .ok (.ifCond .eq 7, 3) := by decide +kernel
theorem dX5_steps_46 : decode cX5_steps 46 = .ok (.iconst 0, 1) := by decide +kernel
theorem dX5_steps_47 : decode cX5_steps 47 = .ok (.goto 9, 3) := by decide +kernel
theorem dX5_steps_50 : decode cX5_steps 50 = .ok (.aload_n 0, 1) := by decide +kernel
theorem dX5_steps_51 : decode cX5_steps 51 = .ok (.iload_n 1, 1) := by decide +kernel
theorem dX5_steps_52 : decode cX5_steps 52 = .ok (.iload_n 3, 1) := by decide +kernel
theorem dX5_steps_53 : decode cX5_steps 53 = .ok (.invokevirtual 130, 3) := by decide +kernel
theorem dX5_steps_56 : decode cX5_steps 56 = .ok (.iadd, 1) := by decide +kernel
theorem dX5_steps_57 : decode cX5_steps 57 = .ok (.invokestatic 103, 3) := by decide +kernel
theorem dX5_steps_60 : decode cX5_steps 60 = .ok (.iastore, 1) := by decide +kernel
theorem dX5_steps_61 : decode cX5_steps 61 = .ok (.aload_n 0, 1) := by decide +kernel
theorem dX5_steps_62 : decode cX5_steps 62 = .ok (.getfield 41, 3) := by decide +kernel
theorem dX5_steps_65 : decode cX5_steps 65 = .ok (.iload_n 1, 1) := by decide +kernel
end
section
theorem dX5_steps_66 : decode cX5_steps 66 = .ok (.iconst 3, 1) := by decide +kernel
theorem dX5_steps_67 : decode cX5_steps 67 = .ok (.iadd, 1) := by decide +kernel
theorem dX5_steps_68 : decode cX5_steps 68 = .ok (.dup2, 1) := by decide +kernel
theorem dX5_steps_69 : decode cX5_steps 69 = .ok (.iaload, 1) := by decide +kernel
theorem dX5_steps_70 : decode cX5_steps 70 = .ok (.iload 4, 2) := by decide +kernel
theorem dX5_steps_72 : decode cX5_steps 72 = .ok (.iadd, 1) := by decide +kernel
theorem dX5_steps_73 : decode cX5_steps 73 = .ok (.iastore, 1) := by decide +kernel
theorem dX5_steps_74 : decode cX5_steps 74 = .ok (.aload_n 0, 1) := by decide +kernel
theorem dX5_steps_75 : decode cX5_steps 75 = .ok (.dup, 1) := by decide +kernel
theorem dX5_steps_76 : decode cX5_steps 76 = .ok (.getfield 147, 3) := by decide +kernel
theorem dX5_steps_79 : decode cX5_steps 79 = .ok (.iload 4, 2) := by decide +kernel
theorem dX5_steps_81 : decode cX5_steps 81 = .ok (.ifCond .ne 7, 3) := by decide +kernel
theorem dX5_steps_84 : decode cX5_steps 84 = .ok (.iconst 1, 1) := by decide +kernel
theorem dX5_steps_85 : decode cX5_steps 85 = .ok (.goto 4, 3) := by decide +kernel
theorem dX5_steps_88 : decode cX5_steps 88 = .ok (.iconst 0, 1) := by decide +kernel
theorem dX5_steps_89 : decode cX5_steps 89 = .ok (.iadd, 1) := by decide +kernel
theorem dX5_steps_90 : decode cX5_steps 90 = .ok (.putfield 147, 3) := by decide +kernel
theorem dX5_steps_93 : decode cX5_steps 93 = .ok (.aload_n 0, 1) := by decide +kernel
theorem dX5_steps_94 : decode cX5_steps 94 = .ok (.getfield 41, 3) := by decide +kernel
theorem dX5_steps_97 : decode cX5_steps 97 = .ok (.iload_n 1, 1) := by decide +kernel
theorem dX5_steps_98 : decode cX5_steps 98 = .ok (.iconst 4, 1) := by decide +kernel
theorem dX5_steps_99 : decode cX5_steps 99 = .ok (.iadd, 1) := by decide +kernel
theorem dX5_steps_100 : decode cX5_steps 100 = .ok (.dup2, 1) := by decide +kernel
theorem dX5_steps_101 : decode cX5_steps 101 = .ok (.iaload, 1) := by decide +kernel
theorem dX5_steps_102 : decode cX5_steps 102 = .ok (.iload 4, 2) := by decide +kernel
theorem dX5_steps_104 : decode cX5_steps 104 = .ok (.ifCond .ne 7, 3) := by decide +kernel
theorem dX5_steps_107 : decode cX5_steps 107 = .ok (.iconst 1, 1) := by decide +kernel
theorem dX5_steps_108 : decode cX5_steps 108 = .ok (.goto 4, 3) := by decide +kernel
theorem dX5_steps_111 : decode cX5_steps 111 = .ok (.iconst 0, 1) := by decide +kernel
theorem dX5_steps_112 : decode cX5_steps 112 = .ok (.ixor, 1) := by decide +kernel
theorem dX5_steps_113 : decode cX5_steps 113 = .ok (.iastore, 1) := by decide +kernel
theorem dX5_steps_114 : decode cX5_steps 114 = .ok (.aload_n 0, 1) := by decide +kernel
theorem dX5_steps_115 : decode cX5_steps 115 = .ok (.getfield 41, 3) := by decide +kernel
theorem dX5_steps_118 : decode cX5_steps 118 = .ok (.iload_n 1, 1) := by decide +kernel
theorem dX5_steps_119 : decode cX5_steps 119 = .ok (.iconst 0, 1) := by decide +kernel
theorem dX5_steps_120 : decode cX5_steps 120 = .ok (.iadd, 1) := by decide +kernel
theorem dX5_steps_121 : decode cX5_steps 121 = .ok (.iload_n 3, 1) := by decide +kernel
theorem dX5_steps_122 : decode cX5_steps 122 = .ok (.aload_n 0, 1) := by decide +kernel
theorem dX5_steps_123 : decode cX5_steps 123 = .ok (.getfield 41, 3) := by decide +kernel
theorem dX5_steps_126 : decode cX5_steps 126 = .ok (.iload_n 1, 1) := by decide +kernel
theorem dX5_steps_127 : decode cX5_steps 127 = .ok (.iconst 4, 1) := by decide +kernel
theorem dX5_steps_128 : decode cX5_steps 128 = .ok (.iadd, 1) := by decide +kernel
theorem dX5_steps_129 : decode cX5_steps 129 = .ok (.iaload, 1) := by decide +kernel
theorem dX5_steps_130 : decode cX5_steps 130 = .ok (.iconst 1, 1) := by decide +kernel
theorem dX5_steps_131 : decode cX5_steps 131 = .ok (.if_icmp .ne 12, 3) := by decide +kernel
theorem dX5_steps_134 : decode cX5_steps 134 = .ok (.aload_n 0, 1) := by decide +kernel
theorem dX5_steps_135 : decode cX5_steps 135 = .ok (.getfield 97, 3) := by decide +kernel
theorem dX5_steps_138 : decode cX5_steps 138 = .ok (.iconst 1, 1) := by decide +kernel
theorem dX5_steps_139 : decode cX5_steps 139 = .ok (.isub, 1) := by decide +kernel
theorem dX5_steps_140 : decode cX5_steps 140 = .ok (.goto 4, 3) := by decide +kernel
theorem dX5_steps_143 : decode cX5_steps 143 = .ok (.iconst 1, 1) := by decide +kernel
theorem dX5_steps_144 : decode cX5_steps 144 = .ok (.iadd, 1) := by decide +kernel
theorem dX5_steps_145 : decode cX5_steps 145 = .ok (.aload_n 0, 1) := by decide +kernel
theorem dX5_steps_146 : decode cX5_steps 146 = .ok (.getfield 97, 3) := by decide +kernel
theorem dX5_steps_149 : decode cX5_steps 149 = .ok (.irem, 1) := by decide +kernel
theorem dX5_steps_150 : decode cX5_steps 150 = .ok (.iastore, 1) := by decide +kernel
theorem dX5_steps_151 : decode cX5_steps 151 = .ok (.iload 4, 2) := by decide +kernel
theorem dX5_steps_153 : decode cX5_steps 153 = .ok (.ireturn, 1) := by decide +kernel
theorem dX5_copies_0 : decode cX5_copies 0 = .ok (.iconst 0, 1) := by decide +kernel
theorem dX5_copies_1 : decode cX5_copies 1 = .ok (.istore_n 3, 1) := by decide +kernel
theorem dX5_copies_2 : decode cX5_copies 2 = .ok (.iload_n 3, 1) := by decide +kernel
theorem dX5_copies_3 : decode cX5_copies 3 = .ok (.bipush 6, 2) := by decide +kernel
theorem dX5_copies_5 : decode cX5_copies 5 = .ok (.if_icmp .ge 25, 3) := by decide +kernel
theorem dX5_copies_8 : decode cX5_copies 8 = .ok (.aload_n 0, 1) := by decide +kernel
theorem dX5_copies_9 : decode cX5_copies 9 = .ok (.getfield 41, 3) := by decide +kernel
theorem dX5_copies_12 : decode cX5_copies 12 = .ok (.iload_n 2, 1) := by decide +kernel
theorem dX5_copies_13 : decode cX5_copies 13 = .ok (.iload_n 3, 1) := by decide +kernel
theorem dX5_copies_14 : decode cX5_copies 14 = .ok (.iadd, 1) := by decide +kernel
theorem dX5_copies_15 : decode cX5_copies 15 = .ok (.aload_n 0, 1) := by decide +kernel
theorem dX5_copies_16 : decode cX5_copies 16 = .ok (.getfield 41, 3) := by decide +kernel
theorem dX5_copies_19 : decode cX5_copies 19 = .ok (.iload_n 1, 1) := by decide +kernel
theorem dX5_copies_20 : decode cX5_copies 20 = .ok (.iload_n 3, 1) := by decide +kernel
theorem dX5_copies_21 : decode cX5_copies 21 = .ok (.iadd, 1) := by decide +kernel
theorem dX5_copies_22 : decode cX5_copies 22 = .ok (.iaload, 1) := by decide +kernel
theorem dX5_copies_23 : decode cX5_copies 23 = .ok (.iastore, 1) := by decide +kernel
theorem dX5_copies_24 : decode cX5_copies 24 = .ok (.iinc 3 1, 3) := by decide +kernel
theorem dX5_copies_27 : decode cX5_copies 27 = .ok (.goto (-25), 3) := by decide +kernel
theorem dX5_copies_30 : decode cX5_copies 30 = .ok (.return_, 1) := by decide +kernel
theorem dX5_deed_0 : decode cX5_deed 0 = .ok (.aload_n 0, 1) := by decide +kernel
theorem dX5_deed_1 : decode cX5_deed 1 = .ok (.aload_n 0, 1) := by decide +kernel
theorem dX5_deed_2 : decode cX5_deed 2 = .ok (.invokevirtual 123, 3) := by decide +kernel
theorem dX5_deed_5 : decode cX5_deed 5 = .ok (.aload_n 0, 1) := by decide +kernel
theorem dX5_deed_6 : decode cX5_deed 6 = .ok (.invokevirtual 123, 3) := by decide +kernel
theorem dX5_deed_9 : decode cX5_deed 9 = .ok (.bipush 6, 2) := by decide +kernel
theorem dX5_deed_11 : decode cX5_deed 11 = .ok (.iadd, 1) := by decide +kernel
theorem dX5_deed_12 : decode cX5_deed 12 = .ok (.invokevirtual 150, 3) := by decide +kernel
theorem dX5_deed_15 : decode cX5_deed 15 = .ok (.aload_n 0, 1) := by decide +kernel
theorem dX5_deed_16 : decode cX5_deed 16 = .ok (.dup, 1) := by decide +kernel
theorem dX5_deed_17 : decode cX5_deed 17 = .ok (.getfield 100, 3) := by decide +kernel
theorem dX5_deed_20 : decode cX5_deed 20 = .ok (.iconst 1, 1) := by decide +kernel
theorem dX5_deed_21 : decode cX5_deed 21 = .ok (.iadd, 1) := by decide +kernel
theorem dX5_deed_22 : decode cX5_deed 22 = .ok (.putfield 100, 3) := by decide +kernel
theorem dX5_deed_25 : decode cX5_deed 25 = .ok (.aload_n 0, 1) := by decide +kernel
theorem dX5_deed_26 : decode cX5_deed 26 = .ok (.invokevirtual 123, 3) := by decide +kernel
theorem dX5_deed_29 : decode cX5_deed 29 = .ok (.ireturn, 1) := by decide +kernel
theorem dX5_step_0 : decode cX5_step 0 = .ok (.aload_n 0, 1) := by decide +kernel
theorem dX5_step_1 : decode cX5_step 1 = .ok (.getfield 97, 3) := by decide +kernel
theorem dX5_step_4 : decode cX5_step 4 = .ok (.ifCond .ne 6, 3) := by decide +kernel
theorem dX5_step_7 : decode cX5_step 7 = .ok (.bipush (-4), 2) := by decide +kernel
theorem dX5_step_9 : decode cX5_step 9 = .ok (.ireturn, 1) := by decide +kernel
theorem dX5_step_10 : decode cX5_step 10 = .ok (.aload_n 0, 1) := by decide +kernel
theorem dX5_step_11 : decode cX5_step 11 = .ok (.getfield 100, 3) := by decide +kernel
theorem dX5_step_14 : decode cX5_step 14 = .ok (.bipush 40, 2) := by decide +kernel
theorem dX5_step_16 : decode cX5_step 16 = .ok (.if_icmp .ne 6, 3) := by decide +kernel
theorem dX5_step_19 : decode cX5_step 19 = .ok (.bipush (-2), 2) := by decide +kernel
theorem dX5_step_21 : decode cX5_step 21 = .ok (.ireturn, 1) := by decide +kernel
theorem dX5_step_22 : decode cX5_step 22 = .ok (.aload_n 0, 1) := by decide +kernel
theorem dX5_step_23 : decode cX5_step 23 = .ok (.aload_n 0, 1) := by decide +kernel
theorem dX5_step_24 : decode cX5_step 24 = .ok (.invokevirtual 153, 3) := by decide +kernel
theorem dX5_step_27 : decode cX5_step 27 = .ok (.iconst 0, 1) := by decide +kernel
theorem dX5_step_28 : decode cX5_step 28 = .ok (.invokevirtual 156, 3) := by decide +kernel
theorem dX5_step_31 : decode cX5_step 31 = .ok (.istore_n 1, 1) := by decide +kernel
theorem dX5_step_32 : decode cX5_step 32 = .ok (.aload_n 0, 1) := by decide +kernel
theorem dX5_step_33 : decode cX5_step 33 = .ok (.aload_n 0, 1) := by decide +kernel
theorem dX5_step_34 : decode cX5_step 34 = .ok (.getfield 41, 3) := by decide +kernel
theorem dX5_step_37 : decode cX5_step 37 = .ok (.aload_n 0, 1) := by decide +kernel
theorem dX5_step_38 : decode cX5_step 38 = .ok (.invokevirtual 123, 3) := by decide +kernel
theorem dX5_step_41 : decode cX5_step 41 = .ok (.iconst 0, 1) := by decide +kernel
theorem dX5_step_42 : decode cX5_step 42 = .ok (.iadd, 1) := by decide +kernel
theorem dX5_step_43 : decode cX5_step 43 = .ok (.iaload, 1) := by decide +kernel
theorem dX5_step_44 : decode cX5_step 44 = .ok (.putfield 75, 3) := by decide +kernel
theorem dX5_step_47 : decode cX5_step 47 = .ok (.iload_n 1, 1) := by decide +kernel
theorem dX5_step_48 : decode cX5_step 48 = .ok (.ireturn, 1) := by decide +kernel
theorem dX5_hatch_0 : decode cX5_hatch 0 = .ok (.iload_n 1, 1) := by decide +kernel
theorem dX5_hatch_1 : decode cX5_hatch 1 = .ok (.i2l, 1) := by decide +kernel
theorem dX5_hatch_2 : decode cX5_hatch 2 = .ok (.lconst 0, 1) := by decide +kernel
theorem dX5_hatch_3 : decode cX5_hatch 3 = .ok (.ldc2_w 143, 3) := by decide +kernel
theorem dX5_hatch_6 : decode cX5_hatch 6 = .ok (.invokestatic 63, 3) := by decide +kernel
theorem dX5_hatch_9 : decode cX5_hatch 9 = .ok (.ifCond .ne 5, 3) := by decide +kernel
theorem dX5_hatch_12 : decode cX5_hatch 12 = .ok (.iconst (-1), 1) := by decide +kernel
theorem dX5_hatch_13 : decode cX5_hatch 13 = .ok (.ireturn, 1) := by decide +kernel
theorem dX5_hatch_14 : decode cX5_hatch 14 = .ok (.aload_n 0, 1) := by decide +kernel
theorem dX5_hatch_15 : decode cX5_hatch 15 = .ok (.getfield 97, 3) := by decide +kernel
theorem dX5_hatch_18 : decode cX5_hatch 18 = .ok (.ifCond .eq 18, 3) := by decide +kernel
theorem dX5_hatch_21 : decode cX5_hatch 21 = .ok (.aload_n 0, 1) := by decide +kernel
theorem dX5_hatch_22 : decode cX5_hatch 22 = .ok (.getfield 41, 3) := by decide +kernel
theorem dX5_hatch_25 : decode cX5_hatch 25 = .ok (.aload_n 0, 1) := by decide +kernel
theorem dX5_hatch_26 : decode cX5_hatch 26 = .ok (.invokevirtual 123, 3) := by decide +kernel
theorem dX5_hatch_29 : decode cX5_hatch 29 = .ok (.iconst 1, 1) := by decide +kernel
theorem dX5_hatch_30 : decode cX5_hatch 30 = .ok (.iadd, 1) := by decide +kernel
theorem dX5_hatch_31 : decode cX5_hatch 31 = .ok (.iaload, 1) := by decide +kernel
theorem dX5_hatch_32 : decode cX5_hatch 32 = .ok (.iload_n 1, 1) := by decide +kernel
theorem dX5_hatch_33 : decode cX5_hatch 33 = .ok (.if_icmp .ne 6, 3) := by decide +kernel
theorem dX5_hatch_36 : decode cX5_hatch 36 = .ok (.bipush (-4), 2) := by decide +kernel
theorem dX5_hatch_38 : decode cX5_hatch 38 = .ok (.ireturn, 1) := by decide +kernel
theorem dX5_hatch_39 : decode cX5_hatch 39 = .ok (.aload_n 0, 1) := by decide +kernel
theorem dX5_hatch_40 : decode cX5_hatch 40 = .ok (.getfield 100, 3) := by decide +kernel
theorem dX5_hatch_43 : decode cX5_hatch 43 = .ok (.bipush 40, 2) := by decide +kernel
theorem dX5_hatch_45 : decode cX5_hatch 45 = .ok (.if_icmp .ne 6, 3) := by decide +kernel
theorem dX5_hatch_48 : decode cX5_hatch 48 = .ok (.bipush (-2), 2) := by decide +kernel
theorem dX5_hatch_50 : decode cX5_hatch 50 = .ok (.ireturn, 1) := by decide +kernel
theorem dX5_hatch_51 : decode cX5_hatch 51 = .ok (.aload_n 0, 1) := by decide +kernel
theorem dX5_hatch_52 : decode cX5_hatch 52 = .ok (.getfield 41, 3) := by decide +kernel
theorem dX5_hatch_55 : decode cX5_hatch 55 = .ok (.aload_n 0, 1) := by decide +kernel
theorem dX5_hatch_56 : decode cX5_hatch 56 = .ok (.invokevirtual 123, 3) := by decide +kernel
theorem dX5_hatch_59 : decode cX5_hatch 59 = .ok (.iconst 1, 1) := by decide +kernel
theorem dX5_hatch_60 : decode cX5_hatch 60 = .ok (.iadd, 1) := by decide +kernel
theorem dX5_hatch_61 : decode cX5_hatch 61 = .ok (.iaload, 1) := by decide +kernel
theorem dX5_hatch_62 : decode cX5_hatch 62 = .ok (.istore_n 2, 1) := by decide +kernel
theorem dX5_hatch_63 : decode cX5_hatch 63 = .ok (.aload_n 0, 1) := by decide +kernel
theorem dX5_hatch_64 : decode cX5_hatch 64 = .ok (.getfield 41, 3) := by decide +kernel
theorem dX5_hatch_67 : decode cX5_hatch 67 = .ok (.aload_n 0, 1) := by decide +kernel
theorem dX5_hatch_68 : decode cX5_hatch 68 = .ok (.invokevirtual 153, 3) := by decide +kernel
theorem dX5_hatch_71 : decode cX5_hatch 71 = .ok (.iconst 1, 1) := by decide +kernel
theorem dX5_hatch_72 : decode cX5_hatch 72 = .ok (.iadd, 1) := by decide +kernel
theorem dX5_hatch_73 : decode cX5_hatch 73 = .ok (.iload_n 1, 1) := by decide +kernel
theorem dX5_hatch_74 : decode cX5_hatch 74 = .ok (.iastore, 1) := by decide +kernel
theorem dX5_hatch_75 : decode cX5_hatch 75 = .ok (.iload_n 2, 1) := by decide +kernel
theorem dX5_hatch_76 : decode cX5_hatch 76 = .ok (.ireturn, 1) := by decide +kernel
theorem dX5_rake_0 : decode cX5_rake 0 = .ok (.aload_n 0, 1) := by decide +kernel
theorem dX5_rake_1 : decode cX5_rake 1 = .ok (.getfield 97, 3) := by decide +kernel
theorem dX5_rake_4 : decode cX5_rake 4 = .ok (.ifCond .eq 17, 3) := by decide +kernel
theorem dX5_rake_7 : decode cX5_rake 7 = .ok (.aload_n 0, 1) := by decide +kernel
theorem dX5_rake_8 : decode cX5_rake 8 = .ok (.getfield 41, 3) := by decide +kernel
theorem dX5_rake_11 : decode cX5_rake 11 = .ok (.aload_n 0, 1) := by decide +kernel
theorem dX5_rake_12 : decode cX5_rake 12 = .ok (.invokevirtual 123, 3) := by decide +kernel
theorem dX5_rake_15 : decode cX5_rake 15 = .ok (.iconst 2, 1) := by decide +kernel
theorem dX5_rake_16 : decode cX5_rake 16 = .ok (.iadd, 1) := by decide +kernel
theorem dX5_rake_17 : decode cX5_rake 17 = .ok (.iaload, 1) := by decide +kernel
theorem dX5_rake_18 : decode cX5_rake 18 = .ok (.ifCond .ne 6, 3) := by decide +kernel
theorem dX5_rake_21 : decode cX5_rake 21 = .ok (.bipush (-4), 2) := by decide +kernel
theorem dX5_rake_23 : decode cX5_rake 23 = .ok (.ireturn, 1) := by decide +kernel
theorem dX5_rake_24 : decode cX5_rake 24 = .ok (.aload_n 0, 1) := by decide +kernel
theorem dX5_rake_25 : decode cX5_rake 25 = .ok (.getfield 100, 3) := by decide +kernel
theorem dX5_rake_28 : decode cX5_rake 28 = .ok (.bipush 40, 2) := by decide +kernel
theorem dX5_rake_30 : decode cX5_rake 30 = .ok (.if_icmp .ne 6, 3) := by decide +kernel
theorem dX5_rake_33 : decode cX5_rake 33 = .ok (.bipush (-2), 2) := by decide +kernel
theorem dX5_rake_35 : decode cX5_rake 35 = .ok (.ireturn, 1) := by decide +kernel
theorem dX5_rake_36 : decode cX5_rake 36 = .ok (.aload_n 0, 1) := by decide +kernel
theorem dX5_rake_37 : decode cX5_rake 37 = .ok (.getfield 41, 3) := by decide +kernel
theorem dX5_rake_40 : decode cX5_rake 40 = .ok (.aload_n 0, 1) := by decide +kernel
theorem dX5_rake_41 : decode cX5_rake 41 = .ok (.invokevirtual 123, 3) := by decide +kernel
theorem dX5_rake_44 : decode cX5_rake 44 = .ok (.iconst 2, 1) := by decide +kernel
theorem dX5_rake_45 : decode cX5_rake 45 = .ok (.iadd, 1) := by decide +kernel
theorem dX5_rake_46 : decode cX5_rake 46 = .ok (.iaload, 1) := by decide +kernel
theorem dX5_rake_47 : decode cX5_rake 47 = .ok (.istore_n 1, 1) := by decide +kernel
theorem dX5_rake_48 : decode cX5_rake 48 = .ok (.aload_n 0, 1) := by decide +kernel
theorem dX5_rake_49 : decode cX5_rake 49 = .ok (.getfield 41, 3) := by decide +kernel
theorem dX5_rake_52 : decode cX5_rake 52 = .ok (.aload_n 0, 1) := by decide +kernel
theorem dX5_rake_53 : decode cX5_rake 53 = .ok (.invokevirtual 153, 3) := by decide +kernel
theorem dX5_rake_56 : decode cX5_rake 56 = .ok (.iconst 2, 1) := by decide +kernel
theorem dX5_rake_57 : decode cX5_rake 57 = .ok (.iadd, 1) := by decide +kernel
theorem dX5_rake_58 : decode cX5_rake 58 = .ok (.iconst 0, 1) := by decide +kernel
theorem dX5_rake_59 : decode cX5_rake 59 = .ok (.iastore, 1) := by decide +kernel
theorem dX5_rake_60 : decode cX5_rake 60 = .ok (.iload_n 1, 1) := by decide +kernel
theorem dX5_rake_61 : decode cX5_rake 61 = .ok (.ireturn, 1) := by decide +kernel
theorem dX5_fish_0 : decode cX5_fish 0 = .ok (.aload_n 0, 1) := by decide +kernel
theorem dX5_fish_1 : decode cX5_fish 1 = .ok (.iload_n 1, 1) := by decide +kernel
theorem dX5_fish_2 : decode cX5_fish 2 = .ok (.invokevirtual 133, 3) := by decide +kernel
theorem dX5_fish_5 : decode cX5_fish 5 = .ok (.ifCond .ne 5, 3) := by decide +kernel
theorem dX5_fish_8 : decode cX5_fish 8 = .ok (.iconst (-1), 1) := by decide +kernel
theorem dX5_fish_9 : decode cX5_fish 9 = .ok (.ireturn, 1) := by decide +kernel
theorem dX5_fish_10 : decode cX5_fish 10 = .ok (.aload_n 0, 1) := by decide +kernel
theorem dX5_fish_11 : decode cX5_fish 11 = .ok (.getfield 41, 3) := by decide +kernel
theorem dX5_fish_14 : decode cX5_fish 14 = .ok (.aload_n 0, 1) := by decide +kernel
theorem dX5_fish_15 : decode cX5_fish 15 = .ok (.invokevirtual 123, 3) := by decide +kernel
theorem dX5_fish_18 : decode cX5_fish 18 = .ok (.iconst 5, 1) := by decide +kernel
theorem dX5_fish_19 : decode cX5_fish 19 = .ok (.iadd, 1) := by decide +kernel
theorem dX5_fish_20 : decode cX5_fish 20 = .ok (.iaload, 1) := by decide +kernel
theorem dX5_fish_21 : decode cX5_fish 21 = .ok (.iload_n 1, 1) := by decide +kernel
theorem dX5_fish_22 : decode cX5_fish 22 = .ok (.invokestatic 109, 3) := by decide +kernel
theorem dX5_fish_25 : decode cX5_fish 25 = .ok (.ifCond .eq 6, 3) := by decide +kernel
theorem dX5_fish_28 : decode cX5_fish 28 = .ok (.bipush (-4), 2) := by decide +kernel
theorem dX5_fish_30 : decode cX5_fish 30 = .ok (.ireturn, 1) := by decide +kernel
theorem dX5_fish_31 : decode cX5_fish 31 = .ok (.aload_n 0, 1) := by decide +kernel
theorem dX5_fish_32 : decode cX5_fish 32 = .ok (.getfield 100, 3) := by decide +kernel
theorem dX5_fish_35 : decode cX5_fish 35 = .ok (.bipush 40, 2) := by decide +kernel
theorem dX5_fish_37 : decode cX5_fish 37 = .ok (.if_icmp .ne 6, 3) := by decide +kernel
theorem dX5_fish_40 : decode cX5_fish 40 = .ok (.bipush (-2), 2) := by decide +kernel
theorem dX5_fish_42 : decode cX5_fish 42 = .ok (.ireturn, 1) := by decide +kernel
theorem dX5_fish_43 : decode cX5_fish 43 = .ok (.aload_n 0, 1) := by decide +kernel
theorem dX5_fish_44 : decode cX5_fish 44 = .ok (.getfield 41, 3) := by decide +kernel
theorem dX5_fish_47 : decode cX5_fish 47 = .ok (.aload_n 0, 1) := by decide +kernel
theorem dX5_fish_48 : decode cX5_fish 48 = .ok (.invokevirtual 153, 3) := by decide +kernel
theorem dX5_fish_51 : decode cX5_fish 51 = .ok (.iconst 5, 1) := by decide +kernel
theorem dX5_fish_52 : decode cX5_fish 52 = .ok (.iadd, 1) := by decide +kernel
theorem dX5_fish_53 : decode cX5_fish 53 = .ok (.dup2, 1) := by decide +kernel
theorem dX5_fish_54 : decode cX5_fish 54 = .ok (.iaload, 1) := by decide +kernel
theorem dX5_fish_55 : decode cX5_fish 55 = .ok (.iconst 1, 1) := by decide +kernel
theorem dX5_fish_56 : decode cX5_fish 56 = .ok (.iload_n 1, 1) := by decide +kernel
theorem dX5_fish_57 : decode cX5_fish 57 = .ok (.ishl, 1) := by decide +kernel
theorem dX5_fish_58 : decode cX5_fish 58 = .ok (.ior, 1) := by decide +kernel
theorem dX5_fish_59 : decode cX5_fish 59 = .ok (.iastore, 1) := by decide +kernel
theorem dX5_fish_60 : decode cX5_fish 60 = .ok (.aload_n 0, 1) := by decide +kernel
theorem dX5_fish_61 : decode cX5_fish 61 = .ok (.getfield 29, 3) := by decide +kernel
theorem dX5_fish_64 : decode cX5_fish 64 = .ok (.iload_n 1, 1) := by decide +kernel
theorem dX5_fish_65 : decode cX5_fish 65 = .ok (.iaload, 1) := by decide +kernel
theorem dX5_fish_66 : decode cX5_fish 66 = .ok (.ireturn, 1) := by decide +kernel
theorem dX5_undo_0 : decode cX5_undo 0 = .ok (.iload_n 1, 1) := by decide +kernel
theorem dX5_undo_1 : decode cX5_undo 1 = .ok (.i2l, 1) := by decide +kernel
theorem dX5_undo_2 : decode cX5_undo 2 = .ok (.lconst 0, 1) := by decide +kernel
theorem dX5_undo_3 : decode cX5_undo 3 = .ok (.aload_n 0, 1) := by decide +kernel
theorem dX5_undo_4 : decode cX5_undo 4 = .ok (.getfield 100, 3) := by decide +kernel
theorem dX5_undo_7 : decode cX5_undo 7 = .ok (.i2l, 1) := by decide +kernel
theorem dX5_undo_8 : decode cX5_undo 8 = .ok (.invokestatic 63, 3) := by decide +kernel
theorem dX5_undo_11 : decode cX5_undo 11 = .ok (.ifCond .ne 5, 3) := by decide +kernel
theorem dX5_undo_14 : decode cX5_undo 14 = .ok (.iconst (-1), 1) := by decide +kernel
theorem dX5_undo_15 : decode cX5_undo 15 = .ok (.ireturn, 1) := by decide +kernel
theorem dX5_undo_16 : decode cX5_undo 16 = .ok (.aload_n 0, 1) := by decide +kernel
theorem dX5_undo_17 : decode cX5_undo 17 = .ok (.getfield 100, 3) := by decide +kernel
theorem dX5_undo_20 : decode cX5_undo 20 = .ok (.iload_n 1, 1) := by decide +kernel
theorem dX5_undo_21 : decode cX5_undo 21 = .ok (.isub, 1) := by decide +kernel
theorem dX5_undo_22 : decode cX5_undo 22 = .ok (.istore_n 2, 1) := by decide +kernel
theorem dX5_undo_23 : decode cX5_undo 23 = .ok (.aload_n 0, 1) := by decide +kernel
theorem dX5_undo_24 : decode cX5_undo 24 = .ok (.iload_n 1, 1) := by decide +kernel
theorem dX5_undo_25 : decode cX5_undo 25 = .ok (.putfield 100, 3) := by decide +kernel
theorem dX5_undo_28 : decode cX5_undo 28 = .ok (.iload_n 2, 1) := by decide +kernel
theorem dX5_undo_29 : decode cX5_undo 29 = .ok (.ireturn, 1) := by decide +kernel
theorem dX5_keep_0 : decode cX5_keep 0 = .ok (.iload_n 1, 1) := by decide +kernel
theorem dX5_keep_1 : decode cX5_keep 1 = .ok (.i2l, 1) := by decide +kernel
theorem dX5_keep_2 : decode cX5_keep 2 = .ok (.lconst 0, 1) := by decide +kernel
theorem dX5_keep_3 : decode cX5_keep 3 = .ok (.ldc2_w 160, 3) := by decide +kernel
theorem dX5_keep_6 : decode cX5_keep 6 = .ok (.invokestatic 63, 3) := by decide +kernel
theorem dX5_keep_9 : decode cX5_keep 9 = .ok (.ifCond .ne 5, 3) := by decide +kernel
theorem dX5_keep_12 : decode cX5_keep 12 = .ok (.iconst (-1), 1) := by decide +kernel
theorem dX5_keep_13 : decode cX5_keep 13 = .ok (.ireturn, 1) := by decide +kernel
theorem dX5_keep_14 : decode cX5_keep 14 = .ok (.aload_n 0, 1) := by decide +kernel
theorem dX5_keep_15 : decode cX5_keep 15 = .ok (.getfield 97, 3) := by decide +kernel
theorem dX5_keep_18 : decode cX5_keep 18 = .ok (.ifCond .ne 6, 3) := by decide +kernel
theorem dX5_keep_21 : decode cX5_keep 21 = .ok (.bipush (-4), 2) := by decide +kernel
theorem dX5_keep_23 : decode cX5_keep 23 = .ok (.ireturn, 1) := by decide +kernel
theorem dX5_keep_24 : decode cX5_keep 24 = .ok (.iconst 0, 1) := by decide +kernel
theorem dX5_keep_25 : decode cX5_keep 25 = .ok (.istore_n 2, 1) := by decide +kernel
theorem dX5_keep_26 : decode cX5_keep 26 = .ok (.iload_n 2, 1) := by decide +kernel
theorem dX5_keep_27 : decode cX5_keep 27 = .ok (.sipush 246, 3) := by decide +kernel
theorem dX5_keep_30 : decode cX5_keep 30 = .ok (.if_icmp .ge 29, 3) := by decide +kernel
theorem dX5_keep_33 : decode cX5_keep 33 = .ok (.aload_n 0, 1) := by decide +kernel
theorem dX5_keep_34 : decode cX5_keep 34 = .ok (.getfield 41, 3) := by decide +kernel
theorem dX5_keep_37 : decode cX5_keep 37 = .ok (.sipush 246, 3) := by decide +kernel
theorem dX5_keep_40 : decode cX5_keep 40 = .ok (.iload_n 1, 1) := by decide +kernel
theorem dX5_keep_41 : decode cX5_keep 41 = .ok (.iconst 1, 1) := by decide +kernel
theorem dX5_keep_42 : decode cX5_keep 42 = .ok (.iadd, 1) := by decide +kernel
theorem dX5_keep_43 : decode cX5_keep 43 = .ok (.imul, 1) := by decide +kernel
theorem dX5_keep_44 : decode cX5_keep 44 = .ok (.iload_n 2, 1) := by decide +kernel
theorem dX5_keep_45 : decode cX5_keep 45 = .ok (.iadd, 1) := by decide +kernel
theorem dX5_keep_46 : decode cX5_keep 46 = .ok (.aload_n 0, 1) := by decide +kernel
theorem dX5_keep_47 : decode cX5_keep 47 = .ok (.getfield 41, 3) := by decide +kernel
theorem dX5_keep_50 : decode cX5_keep 50 = .ok (.iload_n 2, 1) := by decide +kernel
theorem dX5_keep_51 : decode cX5_keep 51 = .ok (.iaload, 1) := by decide +kernel
theorem dX5_keep_52 : decode cX5_keep 52 = .ok (.iastore, 1) := by decide +kernel
theorem dX5_keep_53 : decode cX5_keep 53 = .ok (.iinc 2 1, 3) := by decide +kernel
theorem dX5_keep_56 : decode cX5_keep 56 = .ok (.goto (-30), 3) := by decide +kernel
theorem dX5_keep_59 : decode cX5_keep 59 = .ok (.aload_n 0, 1) := by decide +kernel
theorem dX5_keep_60 : decode cX5_keep 60 = .ok (.getfield 44, 3) := by decide +kernel
theorem dX5_keep_63 : decode cX5_keep 63 = .ok (.iload_n 1, 1) := by decide +kernel
theorem dX5_keep_64 : decode cX5_keep 64 = .ok (.aload_n 0, 1) := by decide +kernel
theorem dX5_keep_65 : decode cX5_keep 65 = .ok (.getfield 100, 3) := by decide +kernel
theorem dX5_keep_68 : decode cX5_keep 68 = .ok (.iastore, 1) := by decide +kernel
theorem dX5_keep_69 : decode cX5_keep 69 = .ok (.aload_n 0, 1) := by decide +kernel
theorem dX5_keep_70 : decode cX5_keep 70 = .ok (.getfield 100, 3) := by decide +kernel
theorem dX5_keep_73 : decode cX5_keep 73 = .ok (.ireturn, 1) := by decide +kernel
theorem dX5_on_0 : decode cX5_on 0 = .ok (.iload_n 1, 1) := by decide +kernel
theorem dX5_on_1 : decode cX5_on 1 = .ok (.i2l, 1) := by decide +kernel
theorem dX5_on_2 : decode cX5_on 2 = .ok (.lconst 0, 1) := by decide +kernel
theorem dX5_on_3 : decode cX5_on 3 = .ok (.ldc2_w 160, 3) := by decide +kernel
theorem dX5_on_6 : decode cX5_on 6 = .ok (.invokestatic 63, 3) := by decide +kernel
theorem dX5_on_9 : decode cX5_on 9 = .ok (.ifCond .ne 5, 3) := by decide +kernel
theorem dX5_on_12 : decode cX5_on 12 = .ok (.iconst (-1), 1) := by decide +kernel
theorem dX5_on_13 : decode cX5_on 13 = .ok (.ireturn, 1) := by decide +kernel
theorem dX5_on_14 : decode cX5_on 14 = .ok (.aload_n 0, 1) := by decide +kernel
theorem dX5_on_15 : decode cX5_on 15 = .ok (.getfield 44, 3) := by decide +kernel
theorem dX5_on_18 : decode cX5_on 18 = .ok (.iload_n 1, 1) := by decide +kernel
theorem dX5_on_19 : decode cX5_on 19 = .ok (.iaload, 1) := by decide +kernel
theorem dX5_on_20 : decode cX5_on 20 = .ok (.ifCond .ge 9, 3) := by decide +kernel
theorem dX5_on_23 : decode cX5_on 23 = .ok (.aload_n 0, 1) := by decide +kernel
theorem dX5_on_24 : decode cX5_on 24 = .ok (.iconst 1, 1) := by decide +kernel
theorem dX5_on_25 : decode cX5_on 25 = .ok (.invokevirtual 67, 3) := by decide +kernel
theorem dX5_on_28 : decode cX5_on 28 = .ok (.ireturn, 1) := by decide +kernel
theorem dX5_on_29 : decode cX5_on 29 = .ok (.iconst 0, 1) := by decide +kernel
theorem dX5_on_30 : decode cX5_on 30 = .ok (.istore_n 2, 1) := by decide +kernel
theorem dX5_on_31 : decode cX5_on 31 = .ok (.iload_n 2, 1) := by decide +kernel
theorem dX5_on_32 : decode cX5_on 32 = .ok (.sipush 246, 3) := by decide +kernel
theorem dX5_on_35 : decode cX5_on 35 = .ok (.if_icmp .ge 29, 3) := by decide +kernel
theorem dX5_on_38 : decode cX5_on 38 = .ok (.aload_n 0, 1) := by decide +kernel
theorem dX5_on_39 : decode cX5_on 39 = .ok (.getfield 41, 3) := by decide +kernel
theorem dX5_on_42 : decode cX5_on 42 = .ok (.iload_n 2, 1) := by decide +kernel
theorem dX5_on_43 : decode cX5_on 43 = .ok (.aload_n 0, 1) := by decide +kernel
theorem dX5_on_44 : decode cX5_on 44 = .ok (.getfield 41, 3) := by decide +kernel
theorem dX5_on_47 : decode cX5_on 47 = .ok (.sipush 246, 3) := by decide +kernel
theorem dX5_on_50 : decode cX5_on 50 = .ok (.iload_n 1, 1) := by decide +kernel
theorem dX5_on_51 : decode cX5_on 51 = .ok (.iconst 1, 1) := by decide +kernel
theorem dX5_on_52 : decode cX5_on 52 = .ok (.iadd, 1) := by decide +kernel
theorem dX5_on_53 : decode cX5_on 53 = .ok (.imul, 1) := by decide +kernel
theorem dX5_on_54 : decode cX5_on 54 = .ok (.iload_n 2, 1) := by decide +kernel
theorem dX5_on_55 : decode cX5_on 55 = .ok (.iadd, 1) := by decide +kernel
theorem dX5_on_56 : decode cX5_on 56 = .ok (.iaload, 1) := by decide +kernel
theorem dX5_on_57 : decode cX5_on 57 = .ok (.iastore, 1) := by decide +kernel
theorem dX5_on_58 : decode cX5_on 58 = .ok (.iinc 2 1, 3) := by decide +kernel
theorem dX5_on_61 : decode cX5_on 61 = .ok (.goto (-30), 3) := by decide +kernel
theorem dX5_on_64 : decode cX5_on 64 = .ok (.aload_n 0, 1) := by decide +kernel
theorem dX5_on_65 : decode cX5_on 65 = .ok (.aload_n 0, 1) := by decide +kernel
theorem dX5_on_66 : decode cX5_on 66 = .ok (.getfield 44, 3) := by decide +kernel
theorem dX5_on_69 : decode cX5_on 69 = .ok (.iload_n 1, 1) := by decide +kernel
theorem dX5_on_70 : decode cX5_on 70 = .ok (.iaload, 1) := by decide +kernel
theorem dX5_on_71 : decode cX5_on 71 = .ok (.putfield 100, 3) := by decide +kernel
theorem dX5_on_74 : decode cX5_on 74 = .ok (.aload_n 0, 1) := by decide +kernel
theorem dX5_on_75 : decode cX5_on 75 = .ok (.getfield 100, 3) := by decide +kernel
theorem dX5_on_78 : decode cX5_on 78 = .ok (.ireturn, 1) := by decide +kernel
theorem dX5_tries_0 : decode cX5_tries 0 = .ok (.aload_n 0, 1) := by decide +kernel
theorem dX5_tries_1 : decode cX5_tries 1 = .ok (.aload_n 0, 1) := by decide +kernel
theorem dX5_tries_2 : decode cX5_tries 2 = .ok (.invokevirtual 123, 3) := by decide +kernel
theorem dX5_tries_5 : decode cX5_tries 5 = .ok (.sipush 984, 3) := by decide +kernel
theorem dX5_tries_8 : decode cX5_tries 8 = .ok (.invokevirtual 150, 3) := by decide +kernel
theorem dX5_tries_11 : decode cX5_tries 11 = .ok (.return_, 1) := by decide +kernel
theorem dX5_many_0 : decode cX5_many 0 = .ok (.iconst 0, 1) := by decide +kernel
theorem dX5_many_1 : decode cX5_many 1 = .ok (.istore_n 2, 1) := by decide +kernel
theorem dX5_many_2 : decode cX5_many 2 = .ok (.iconst 0, 1) := by decide +kernel
theorem dX5_many_3 : decode cX5_many 3 = .ok (.istore_n 3, 1) := by decide +kernel
theorem dX5_many_4 : decode cX5_many 4 = .ok (.iload_n 3, 1) := by decide +kernel
theorem dX5_many_5 : decode cX5_many 5 = .ok (.iload_n 1, 1) := by decide +kernel
theorem dX5_many_6 : decode cX5_many 6 = .ok (.if_icmp .ge 20, 3) := by decide +kernel
theorem dX5_many_9 : decode cX5_many 9 = .ok (.iload_n 2, 1) := by decide +kernel
theorem dX5_many_10 : decode cX5_many 10 = .ok (.aload_n 0, 1) := by decide +kernel
theorem dX5_many_11 : decode cX5_many 11 = .ok (.sipush 984, 3) := by decide +kernel
theorem dX5_many_14 : decode cX5_many 14 = .ok (.iconst 0, 1) := by decide +kernel
theorem dX5_many_15 : decode cX5_many 15 = .ok (.invokevirtual 156, 3) := by decide +kernel
theorem dX5_many_18 : decode cX5_many 18 = .ok (.iadd, 1) := by decide +kernel
theorem dX5_many_19 : decode cX5_many 19 = .ok (.istore_n 2, 1) := by decide +kernel
theorem dX5_many_20 : decode cX5_many 20 = .ok (.iinc 3 1, 3) := by decide +kernel
theorem dX5_many_23 : decode cX5_many 23 = .ok (.goto (-19), 3) := by decide +kernel
theorem dX5_many_26 : decode cX5_many 26 = .ok (.iload_n 2, 1) := by decide +kernel
theorem dX5_many_27 : decode cX5_many 27 = .ok (.ireturn, 1) := by decide +kernel
theorem dX5_mill_0 : decode cX5_mill 0 = .ok (.iload_n 1, 1) := by decide +kernel
theorem dX5_mill_1 : decode cX5_mill 1 = .ok (.i2l, 1) := by decide +kernel
theorem dX5_mill_2 : decode cX5_mill 2 = .ok (.lconst 0, 1) := by decide +kernel
theorem dX5_mill_3 : decode cX5_mill 3 = .ok (.ldc2_w 162, 3) := by decide +kernel
theorem dX5_mill_6 : decode cX5_mill 6 = .ok (.invokestatic 63, 3) := by decide +kernel
theorem dX5_mill_9 : decode cX5_mill 9 = .ok (.ifCond .ne 5, 3) := by decide +kernel
theorem dX5_mill_12 : decode cX5_mill 12 = .ok (.iconst (-1), 1) := by decide +kernel
theorem dX5_mill_13 : decode cX5_mill 13 = .ok (.ireturn, 1) := by decide +kernel
theorem dX5_mill_14 : decode cX5_mill 14 = .ok (.aload_n 0, 1) := by decide +kernel
theorem dX5_mill_15 : decode cX5_mill 15 = .ok (.getfield 97, 3) := by decide +kernel
theorem dX5_mill_18 : decode cX5_mill 18 = .ok (.ifCond .ne 6, 3) := by decide +kernel
theorem dX5_mill_21 : decode cX5_mill 21 = .ok (.bipush (-4), 2) := by decide +kernel
theorem dX5_mill_23 : decode cX5_mill 23 = .ok (.ireturn, 1) := by decide +kernel
theorem dX5_mill_24 : decode cX5_mill 24 = .ok (.aload_n 0, 1) := by decide +kernel
theorem dX5_mill_25 : decode cX5_mill 25 = .ok (.invokevirtual 164, 3) := by decide +kernel
theorem dX5_mill_28 : decode cX5_mill 28 = .ok (.aload_n 0, 1) := by decide +kernel
theorem dX5_mill_29 : decode cX5_mill 29 = .ok (.iload_n 1, 1) := by decide +kernel
theorem dX5_mill_30 : decode cX5_mill 30 = .ok (.invokevirtual 167, 3) := by decide +kernel
theorem dX5_mill_33 : decode cX5_mill 33 = .ok (.istore_n 2, 1) := by decide +kernel
theorem dX5_mill_34 : decode cX5_mill 34 = .ok (.aload_n 0, 1) := by decide +kernel
theorem dX5_mill_35 : decode cX5_mill 35 = .ok (.aload_n 0, 1) := by decide +kernel
theorem dX5_mill_36 : decode cX5_mill 36 = .ok (.getfield 41, 3) := by decide +kernel
theorem dX5_mill_39 : decode cX5_mill 39 = .ok (.sipush 984, 3) := by decide +kernel
theorem dX5_mill_42 : decode cX5_mill 42 = .ok (.iaload, 1) := by decide +kernel
theorem dX5_mill_43 : decode cX5_mill 43 = .ok (.putfield 75, 3) := by decide +kernel
theorem dX5_mill_46 : decode cX5_mill 46 = .ok (.iload_n 2, 1) := by decide +kernel
theorem dX5_mill_47 : decode cX5_mill 47 = .ok (.ireturn, 1) := by decide +kernel
theorem dX5_turns_0 : decode cX5_turns 0 = .ok (.aload_n 0, 1) := by decide +kernel
theorem dX5_turns_1 : decode cX5_turns 1 = .ok (.getfield 97, 3) := by decide +kernel
theorem dX5_turns_4 : decode cX5_turns 4 = .ok (.ifCond .ne 6, 3) := by decide +kernel
theorem dX5_turns_7 : decode cX5_turns 7 = .ok (.bipush (-4), 2) := by decide +kernel
theorem dX5_turns_9 : decode cX5_turns 9 = .ok (.ireturn, 1) := by decide +kernel
theorem dX5_turns_10 : decode cX5_turns 10 = .ok (.aload_n 0, 1) := by decide +kernel
theorem dX5_turns_11 : decode cX5_turns 11 = .ok (.invokevirtual 164, 3) := by decide +kernel
theorem dX5_turns_14 : decode cX5_turns 14 = .ok (.iconst 1, 1) := by decide +kernel
theorem dX5_turns_15 : decode cX5_turns 15 = .ok (.istore_n 1, 1) := by decide +kernel
theorem dX5_turns_16 : decode cX5_turns 16 = .ok (.iload_n 1, 1) := by decide +kernel
theorem dX5_turns_17 : decode cX5_turns 17 = .ok (.bipush 60, 2) := by decide +kernel
theorem dX5_turns_19 : decode cX5_turns 19 = .ok (.if_icmp .gt 36, 3) := by decide +kernel
theorem dX5_turns_22 : decode cX5_turns 22 = .ok (.aload_n 0, 1) := by decide +kernel
theorem dX5_turns_23 : decode cX5_turns 23 = .ok (.getfield 41, 3) := by decide +kernel
theorem dX5_turns_26 : decode cX5_turns 26 = .ok (.sipush 984, 3) := by decide +kernel
theorem dX5_turns_29 : decode cX5_turns 29 = .ok (.iaload, 1) := by decide +kernel
theorem dX5_turns_30 : decode cX5_turns 30 = .ok (.istore_n 2, 1) := by decide +kernel
theorem dX5_turns_31 : decode cX5_turns 31 = .ok (.aload_n 0, 1) := by decide +kernel
theorem dX5_turns_32 : decode cX5_turns 32 = .ok (.sipush 984, 3) := by decide +kernel
theorem dX5_turns_35 : decode cX5_turns 35 = .ok (.iconst 0, 1) := by decide +kernel
theorem dX5_turns_36 : decode cX5_turns 36 = .ok (.invokevirtual 156, 3) := by decide +kernel
theorem dX5_turns_39 : decode cX5_turns 39 = .ok (.ifCond .ne 10, 3) := by decide +kernel
theorem dX5_turns_42 : decode cX5_turns 42 = .ok (.aload_n 0, 1) := by decide +kernel
theorem dX5_turns_43 : decode cX5_turns 43 = .ok (.iload_n 2, 1) := by decide +kernel
theorem dX5_turns_44 : decode cX5_turns 44 = .ok (.putfield 75, 3) := by decide +kernel
theorem dX5_turns_47 : decode cX5_turns 47 = .ok (.iload_n 1, 1) := by decide +kernel
theorem dX5_turns_48 : decode cX5_turns 48 = .ok (.ireturn, 1) := by decide +kernel
theorem dX5_turns_49 : decode cX5_turns 49 = .ok (.iinc 1 1, 3) := by decide +kernel
theorem dX5_turns_52 : decode cX5_turns 52 = .ok (.goto (-36), 3) := by decide +kernel
theorem dX5_turns_55 : decode cX5_turns 55 = .ok (.bipush (-9), 2) := by decide +kernel
theorem dX5_turns_57 : decode cX5_turns 57 = .ok (.ireturn, 1) := by decide +kernel
theorem dX5_book_0 : decode cX5_book 0 = .ok (.iload_n 1, 1) := by decide +kernel
theorem dX5_book_1 : decode cX5_book 1 = .ok (.i2l, 1) := by decide +kernel
theorem dX5_book_2 : decode cX5_book 2 = .ok (.lconst 1, 1) := by decide +kernel
theorem dX5_book_3 : decode cX5_book 3 = .ok (.ldc2_w 170, 3) := by decide +kernel
theorem dX5_book_6 : decode cX5_book 6 = .ok (.invokestatic 63, 3) := by decide +kernel
theorem dX5_book_9 : decode cX5_book 9 = .ok (.ifCond .eq 15, 3) := by decide +kernel
theorem dX5_book_12 : decode cX5_book 12 = .ok (.iload_n 2, 1) := by decide +kernel
theorem dX5_book_13 : decode cX5_book 13 = .ok (.i2l, 1) := by decide +kernel
theorem dX5_book_14 : decode cX5_book 14 = .ok (.lconst 0, 1) := by decide +kernel
theorem dX5_book_15 : decode cX5_book 15 = .ok (.ldc2_w 61, 3) := by decide +kernel
theorem dX5_book_18 : decode cX5_book 18 = .ok (.invokestatic 63, 3) := by decide +kernel
theorem dX5_book_21 : decode cX5_book 21 = .ok (.ifCond .ne 5, 3) := by decide +kernel
theorem dX5_book_24 : decode cX5_book 24 = .ok (.iconst (-1), 1) := by decide +kernel
theorem dX5_book_25 : decode cX5_book 25 = .ok (.ireturn, 1) := by decide +kernel
theorem dX5_book_26 : decode cX5_book 26 = .ok (.aload_n 0, 1) := by decide +kernel
theorem dX5_book_27 : decode cX5_book 27 = .ok (.getfield 97, 3) := by decide +kernel
theorem dX5_book_30 : decode cX5_book 30 = .ok (.ifCond .ne 6, 3) := by decide +kernel
theorem dX5_book_33 : decode cX5_book 33 = .ok (.bipush (-4), 2) := by decide +kernel
theorem dX5_book_35 : decode cX5_book 35 = .ok (.ireturn, 1) := by decide +kernel
theorem dX5_book_36 : decode cX5_book 36 = .ok (.aload_n 0, 1) := by decide +kernel
theorem dX5_book_37 : decode cX5_book 37 = .ok (.iload_n 2, 1) := by decide +kernel
theorem dX5_book_38 : decode cX5_book 38 = .ok (.iload_n 1, 1) := by decide +kernel
theorem dX5_book_39 : decode cX5_book 39 = .ok (.invokevirtual 71, 3) := by decide +kernel
theorem dX5_book_42 : decode cX5_book 42 = .ok (.aload_n 0, 1) := by decide +kernel
theorem dX5_book_43 : decode cX5_book 43 = .ok (.invokevirtual 164, 3) := by decide +kernel
theorem dX5_book_46 : decode cX5_book 46 = .ok (.aload_n 0, 1) := by decide +kernel
theorem dX5_book_47 : decode cX5_book 47 = .ok (.iconst 0, 1) := by decide +kernel
theorem dX5_book_48 : decode cX5_book 48 = .ok (.putfield 147, 3) := by decide +kernel
theorem dX5_book_51 : decode cX5_book 51 = .ok (.iconst 0, 1) := by decide +kernel
theorem dX5_book_52 : decode cX5_book 52 = .ok (.istore_n 3, 1) := by decide +kernel
theorem dX5_book_53 : decode cX5_book 53 = .ok (.iload_n 3, 1) := by decide +kernel
theorem dX5_book_54 : decode cX5_book 54 = .ok (.iload_n 1, 1) := by decide +kernel
theorem dX5_book_55 : decode cX5_book 55 = .ok (.if_icmp .ge 28, 3) := by decide +kernel
theorem dX5_book_58 : decode cX5_book 58 = .ok (.aload_n 0, 1) := by decide +kernel
theorem dX5_book_59 : decode cX5_book 59 = .ok (.getfield 13, 3) := by decide +kernel
theorem dX5_book_62 : decode cX5_book 62 = .ok (.bipush 40, 2) := by decide +kernel
theorem dX5_book_64 : decode cX5_book 64 = .ok (.iload_n 2, 1) := by decide +kernel
theorem dX5_book_65 : decode cX5_book 65 = .ok (.imul, 1) := by decide +kernel
theorem dX5_book_66 : decode cX5_book 66 = .ok (.iload_n 3, 1) := by decide +kernel
theorem dX5_book_67 : decode cX5_book 67 = .ok (.iadd, 1) := by decide +kernel
theorem dX5_book_68 : decode cX5_book 68 = .ok (.aload_n 0, 1) := by decide +kernel
theorem dX5_book_69 : decode cX5_book 69 = .ok (.sipush 984, 3) := by decide +kernel
theorem dX5_book_72 : decode cX5_book 72 = .ok (.iconst 0, 1) := by decide +kernel
theorem dX5_book_73 : decode cX5_book 73 = .ok (.invokevirtual 156, 3) := by decide +kernel
theorem dX5_book_76 : decode cX5_book 76 = .ok (.iastore, 1) := by decide +kernel
theorem dX5_book_77 : decode cX5_book 77 = .ok (.iinc 3 1, 3) := by decide +kernel
theorem dX5_book_80 : decode cX5_book 80 = .ok (.goto (-27), 3) := by decide +kernel
theorem dX5_book_83 : decode cX5_book 83 = .ok (.aload_n 0, 1) := by decide +kernel
theorem dX5_book_84 : decode cX5_book 84 = .ok (.getfield 147, 3) := by decide +kernel
theorem dX5_book_87 : decode cX5_book 87 = .ok (.ireturn, 1) := by decide +kernel
theorem dX5_best_0 : decode cX5_best 0 = .ok (.iload_n 1, 1) := by decide +kernel
theorem dX5_best_1 : decode cX5_best 1 = .ok (.i2l, 1) := by decide +kernel
theorem dX5_best_2 : decode cX5_best 2 = .ok (.lconst 1, 1) := by decide +kernel
theorem dX5_best_3 : decode cX5_best 3 = .ok (.ldc2_w 170, 3) := by decide +kernel
theorem dX5_best_6 : decode cX5_best 6 = .ok (.invokestatic 63, 3) := by decide +kernel
theorem dX5_best_9 : decode cX5_best 9 = .ok (.ifCond .ne 5, 3) := by decide +kernel
theorem dX5_best_12 : decode cX5_best 12 = .ok (.iconst (-1), 1) := by decide +kernel
theorem dX5_best_13 : decode cX5_best 13 = .ok (.ireturn, 1) := by decide +kernel
theorem dX5_best_14 : decode cX5_best 14 = .ok (.aload_n 0, 1) := by decide +kernel
theorem dX5_best_15 : decode cX5_best 15 = .ok (.getfield 97, 3) := by decide +kernel
theorem dX5_best_18 : decode cX5_best 18 = .ok (.ifCond .ne 6, 3) := by decide +kernel
theorem dX5_best_21 : decode cX5_best 21 = .ok (.bipush (-4), 2) := by decide +kernel
theorem dX5_best_23 : decode cX5_best 23 = .ok (.ireturn, 1) := by decide +kernel
theorem dX5_best_24 : decode cX5_best 24 = .ok (.iconst 0, 1) := by decide +kernel
theorem dX5_best_25 : decode cX5_best 25 = .ok (.istore_n 2, 1) := by decide +kernel
theorem dX5_best_26 : decode cX5_best 26 = .ok (.iconst (-1), 1) := by decide +kernel
theorem dX5_best_27 : decode cX5_best 27 = .ok (.istore_n 3, 1) := by decide +kernel
theorem dX5_best_28 : decode cX5_best 28 = .ok (.iconst 0, 1) := by decide +kernel
theorem dX5_best_29 : decode cX5_best 29 = .ok (.istore 4, 2) := by decide +kernel
theorem dX5_best_31 : decode cX5_best 31 = .ok (.iload 4, 2) := by decide +kernel
theorem dX5_best_33 : decode cX5_best 33 = .ok (.iconst 5, 1) := by decide +kernel
theorem dX5_best_34 : decode cX5_best 34 = .ok (.if_icmp .ge 50, 3) := by decide +kernel
theorem dX5_best_37 : decode cX5_best 37 = .ok (.aload_n 0, 1) := by decide +kernel
theorem dX5_best_38 : decode cX5_best 38 = .ok (.invokevirtual 164, 3) := by decide +kernel
theorem dX5_best_41 : decode cX5_best 41 = .ok (.aload_n 0, 1) := by decide +kernel
theorem dX5_best_42 : decode cX5_best 42 = .ok (.getfield 41, 3) := by decide +kernel
theorem dX5_best_45 : decode cX5_best 45 = .ok (.sipush 985, 3) := by decide +kernel
theorem dX5_best_48 : decode cX5_best 48 = .ok (.iload 4, 2) := by decide +kernel
theorem dX5_best_50 : decode cX5_best 50 = .ok (.iastore, 1) := by decide +kernel
theorem dX5_best_51 : decode cX5_best 51 = .ok (.aload_n 0, 1) := by decide +kernel
theorem dX5_best_52 : decode cX5_best 52 = .ok (.iload_n 1, 1) := by decide +kernel
theorem dX5_best_53 : decode cX5_best 53 = .ok (.invokevirtual 167, 3) := by decide +kernel
theorem dX5_best_56 : decode cX5_best 56 = .ok (.istore 5, 2) := by decide +kernel
theorem dX5_best_58 : decode cX5_best 58 = .ok (.iload 5, 2) := by decide +kernel
theorem dX5_best_60 : decode cX5_best 60 = .ok (.iload_n 3, 1) := by decide +kernel
theorem dX5_best_61 : decode cX5_best 61 = .ok (.if_icmp .le 8, 3) := by decide +kernel
theorem dX5_best_64 : decode cX5_best 64 = .ok (.iload 4, 2) := by decide +kernel
theorem dX5_best_66 : decode cX5_best 66 = .ok (.goto 4, 3) := by decide +kernel
theorem dX5_best_69 : decode cX5_best 69 = .ok (.iload_n 2, 1) := by decide +kernel
theorem dX5_best_70 : decode cX5_best 70 = .ok (.istore_n 2, 1) := by decide +kernel
theorem dX5_best_71 : decode cX5_best 71 = .ok (.iload_n 3, 1) := by decide +kernel
theorem dX5_best_72 : decode cX5_best 72 = .ok (.iload 5, 2) := by decide +kernel
theorem dX5_best_74 : decode cX5_best 74 = .ok (.invokestatic 106, 3) := by decide +kernel
theorem dX5_best_77 : decode cX5_best 77 = .ok (.istore_n 3, 1) := by decide +kernel
theorem dX5_best_78 : decode cX5_best 78 = .ok (.iinc 4 1, 3) := by decide +kernel
theorem dX5_best_81 : decode cX5_best 81 = .ok (.goto (-50), 3) := by decide +kernel
theorem dX5_best_84 : decode cX5_best 84 = .ok (.aload_n 0, 1) := by decide +kernel
theorem dX5_best_85 : decode cX5_best 85 = .ok (.iload_n 3, 1) := by decide +kernel
theorem dX5_best_86 : decode cX5_best 86 = .ok (.putfield 75, 3) := by decide +kernel
theorem dX5_best_89 : decode cX5_best 89 = .ok (.iload_n 2, 1) := by decide +kernel
theorem dX5_best_90 : decode cX5_best 90 = .ok (.ireturn, 1) := by decide +kernel
theorem dX5_plan_0 : decode cX5_plan 0 = .ok (.iload_n 1, 1) := by decide +kernel
theorem dX5_plan_1 : decode cX5_plan 1 = .ok (.i2l, 1) := by decide +kernel
theorem dX5_plan_2 : decode cX5_plan 2 = .ok (.lconst 1, 1) := by decide +kernel
theorem dX5_plan_3 : decode cX5_plan 3 = .ok (.ldc2_w 61, 3) := by decide +kernel
theorem dX5_plan_6 : decode cX5_plan 6 = .ok (.invokestatic 63, 3) := by decide +kernel
theorem dX5_plan_9 : decode cX5_plan 9 = .ok (.ifCond .eq 15, 3) := by decide +kernel
theorem dX5_plan_12 : decode cX5_plan 12 = .ok (.iload_n 2, 1) := by decide +kernel
theorem dX5_plan_13 : decode cX5_plan 13 = .ok (.i2l, 1) := by decide +kernel
theorem dX5_plan_14 : decode cX5_plan 14 = .ok (.lconst 0, 1) := by decide +kernel
theorem dX5_plan_15 : decode cX5_plan 15 = .ok (.ldc2_w 61, 3) := by decide +kernel
theorem dX5_plan_18 : decode cX5_plan 18 = .ok (.invokestatic 63, 3) := by decide +kernel
theorem dX5_plan_21 : decode cX5_plan 21 = .ok (.ifCond .ne 5, 3) := by decide +kernel
theorem dX5_plan_24 : decode cX5_plan 24 = .ok (.iconst (-1), 1) := by decide +kernel
theorem dX5_plan_25 : decode cX5_plan 25 = .ok (.ireturn, 1) := by decide +kernel
theorem dX5_plan_26 : decode cX5_plan 26 = .ok (.aload_n 0, 1) := by decide +kernel
theorem dX5_plan_27 : decode cX5_plan 27 = .ok (.getfield 97, 3) := by decide +kernel
theorem dX5_plan_30 : decode cX5_plan 30 = .ok (.ifCond .ne 6, 3) := by decide +kernel
theorem dX5_plan_33 : decode cX5_plan 33 = .ok (.bipush (-4), 2) := by decide +kernel
theorem dX5_plan_35 : decode cX5_plan 35 = .ok (.ireturn, 1) := by decide +kernel
theorem dX5_plan_36 : decode cX5_plan 36 = .ok (.iconst 1, 1) := by decide +kernel
theorem dX5_plan_37 : decode cX5_plan 37 = .ok (.istore_n 3, 1) := by decide +kernel
theorem dX5_plan_38 : decode cX5_plan 38 = .ok (.iconst 0, 1) := by decide +kernel
theorem dX5_plan_39 : decode cX5_plan 39 = .ok (.istore 4, 2) := by decide +kernel
theorem dX5_plan_41 : decode cX5_plan 41 = .ok (.iload 4, 2) := by decide +kernel
theorem dX5_plan_43 : decode cX5_plan 43 = .ok (.iload_n 1, 1) := by decide +kernel
theorem dX5_plan_44 : decode cX5_plan 44 = .ok (.if_icmp .ge 13, 3) := by decide +kernel
theorem dX5_plan_47 : decode cX5_plan 47 = .ok (.iload_n 3, 1) := by decide +kernel
theorem dX5_plan_48 : decode cX5_plan 48 = .ok (.iconst 5, 1) := by decide +kernel
theorem dX5_plan_49 : decode cX5_plan 49 = .ok (.imul, 1) := by decide +kernel
theorem dX5_plan_50 : decode cX5_plan 50 = .ok (.istore_n 3, 1) := by decide +kernel
theorem dX5_plan_51 : decode cX5_plan 51 = .ok (.iinc 4 1, 3) := by decide +kernel
theorem dX5_plan_54 : decode cX5_plan 54 = .ok (.goto (-13), 3) := by decide +kernel
theorem dX5_plan_57 : decode cX5_plan 57 = .ok (.iconst 0, 1) := by decide +kernel
theorem dX5_plan_58 : decode cX5_plan 58 = .ok (.istore 4, 2) := by decide +kernel
theorem dX5_plan_60 : decode cX5_plan 60 = .ok (.iconst (-1), 1) := by decide +kernel
theorem dX5_plan_61 : decode cX5_plan 61 = .ok (.istore 5, 2) := by decide +kernel
theorem dX5_plan_63 : decode cX5_plan 63 = .ok (.iconst 0, 1) := by decide +kernel
theorem dX5_plan_64 : decode cX5_plan 64 = .ok (.istore 6, 2) := by decide +kernel
theorem dX5_plan_66 : decode cX5_plan 66 = .ok (.iload 6, 2) := by decide +kernel
theorem dX5_plan_68 : decode cX5_plan 68 = .ok (.iload_n 3, 1) := by decide +kernel
theorem dX5_plan_69 : decode cX5_plan 69 = .ok (.if_icmp .ge 93, 3) := by decide +kernel
theorem dX5_plan_72 : decode cX5_plan 72 = .ok (.aload_n 0, 1) := by decide +kernel
theorem dX5_plan_73 : decode cX5_plan 73 = .ok (.invokevirtual 164, 3) := by decide +kernel
theorem dX5_plan_76 : decode cX5_plan 76 = .ok (.iload_n 3, 1) := by decide +kernel
theorem dX5_plan_77 : decode cX5_plan 77 = .ok (.istore 7, 2) := by decide +kernel
theorem dX5_plan_79 : decode cX5_plan 79 = .ok (.iconst 0, 1) := by decide +kernel
theorem dX5_plan_80 : decode cX5_plan 80 = .ok (.istore 8, 2) := by decide +kernel
theorem dX5_plan_82 : decode cX5_plan 82 = .ok (.iconst 0, 1) := by decide +kernel
theorem dX5_plan_83 : decode cX5_plan 83 = .ok (.istore 9, 2) := by decide +kernel
theorem dX5_plan_85 : decode cX5_plan 85 = .ok (.iload 9, 2) := by decide +kernel
theorem dX5_plan_87 : decode cX5_plan 87 = .ok (.iload_n 1, 1) := by decide +kernel
theorem dX5_plan_88 : decode cX5_plan 88 = .ok (.if_icmp .ge 43, 3) := by decide +kernel
theorem dX5_plan_91 : decode cX5_plan 91 = .ok (.iload 7, 2) := by decide +kernel
theorem dX5_plan_93 : decode cX5_plan 93 = .ok (.iconst 5, 1) := by decide +kernel
theorem dX5_plan_94 : decode cX5_plan 94 = .ok (.idiv, 1) := by decide +kernel
theorem dX5_plan_95 : decode cX5_plan 95 = .ok (.istore 7, 2) := by decide +kernel
theorem dX5_plan_97 : decode cX5_plan 97 = .ok (.aload_n 0, 1) := by decide +kernel
theorem dX5_plan_98 : decode cX5_plan 98 = .ok (.getfield 41, 3) := by decide +kernel
theorem dX5_plan_101 : decode cX5_plan 101 = .ok (.sipush 985, 3) := by decide +kernel
theorem dX5_plan_104 : decode cX5_plan 104 = .ok (.iload 6, 2) := by decide +kernel
theorem dX5_plan_106 : decode cX5_plan 106 = .ok (.iload 7, 2) := by decide +kernel
theorem dX5_plan_108 : decode cX5_plan 108 = .ok (.idiv, 1) := by decide +kernel
theorem dX5_plan_109 : decode cX5_plan 109 = .ok (.iconst 5, 1) := by decide +kernel
theorem dX5_plan_110 : decode cX5_plan 110 = .ok (.irem, 1) := by decide +kernel
theorem dX5_plan_111 : decode cX5_plan 111 = .ok (.iastore, 1) := by decide +kernel
theorem dX5_plan_112 : decode cX5_plan 112 = .ok (.iload 8, 2) := by decide +kernel
theorem dX5_plan_114 : decode cX5_plan 114 = .ok (.aload_n 0, 1) := by decide +kernel
theorem dX5_plan_115 : decode cX5_plan 115 = .ok (.sipush 984, 3) := by decide +kernel
theorem dX5_plan_118 : decode cX5_plan 118 = .ok (.iconst 0, 1) := by decide +kernel
theorem dX5_plan_119 : decode cX5_plan 119 = .ok (.invokevirtual 156, 3) := by decide +kernel
theorem dX5_plan_122 : decode cX5_plan 122 = .ok (.iadd, 1) := by decide +kernel
theorem dX5_plan_123 : decode cX5_plan 123 = .ok (.istore 8, 2) := by decide +kernel
theorem dX5_plan_125 : decode cX5_plan 125 = .ok (.iinc 9 1, 3) := by decide +kernel
theorem dX5_plan_128 : decode cX5_plan 128 = .ok (.goto (-43), 3) := by decide +kernel
theorem dX5_plan_131 : decode cX5_plan 131 = .ok (.iload 8, 2) := by decide +kernel
theorem dX5_plan_133 : decode cX5_plan 133 = .ok (.iload 5, 2) := by decide +kernel
theorem dX5_plan_135 : decode cX5_plan 135 = .ok (.if_icmp .le 8, 3) := by decide +kernel
theorem dX5_plan_138 : decode cX5_plan 138 = .ok (.iload 6, 2) := by decide +kernel
theorem dX5_plan_140 : decode cX5_plan 140 = .ok (.goto 5, 3) := by decide +kernel
theorem dX5_plan_143 : decode cX5_plan 143 = .ok (.iload 4, 2) := by decide +kernel
theorem dX5_plan_145 : decode cX5_plan 145 = .ok (.istore 4, 2) := by decide +kernel
theorem dX5_plan_147 : decode cX5_plan 147 = .ok (.iload 5, 2) := by decide +kernel
theorem dX5_plan_149 : decode cX5_plan 149 = .ok (.iload 8, 2) := by decide +kernel
theorem dX5_plan_151 : decode cX5_plan 151 = .ok (.invokestatic 106, 3) := by decide +kernel
theorem dX5_plan_154 : decode cX5_plan 154 = .ok (.istore 5, 2) := by decide +kernel
theorem dX5_plan_156 : decode cX5_plan 156 = .ok (.iinc 6 1, 3) := by decide +kernel
theorem dX5_plan_159 : decode cX5_plan 159 = .ok (.goto (-93), 3) := by decide +kernel
theorem dX5_plan_162 : decode cX5_plan 162 = .ok (.aload_n 0, 1) := by decide +kernel
theorem dX5_plan_163 : decode cX5_plan 163 = .ok (.iload_n 2, 1) := by decide +kernel
theorem dX5_plan_164 : decode cX5_plan 164 = .ok (.iload_n 1, 1) := by decide +kernel
theorem dX5_plan_165 : decode cX5_plan 165 = .ok (.invokevirtual 71, 3) := by decide +kernel
theorem dX5_plan_168 : decode cX5_plan 168 = .ok (.iload_n 1, 1) := by decide +kernel
theorem dX5_plan_169 : decode cX5_plan 169 = .ok (.iconst 1, 1) := by decide +kernel
theorem dX5_plan_170 : decode cX5_plan 170 = .ok (.isub, 1) := by decide +kernel
theorem dX5_plan_171 : decode cX5_plan 171 = .ok (.istore 6, 2) := by decide +kernel
theorem dX5_plan_173 : decode cX5_plan 173 = .ok (.iload 6, 2) := by decide +kernel
theorem dX5_plan_175 : decode cX5_plan 175 = .ok (.ifCond .lt 31, 3) := by decide +kernel
theorem dX5_plan_178 : decode cX5_plan 178 = .ok (.aload_n 0, 1) := by decide +kernel
theorem dX5_plan_179 : decode cX5_plan 179 = .ok (.getfield 13, 3) := by decide +kernel
theorem dX5_plan_182 : decode cX5_plan 182 = .ok (.bipush 40, 2) := by decide +kernel
theorem dX5_plan_184 : decode cX5_plan 184 = .ok (.iload_n 2, 1) := by decide +kernel
theorem dX5_plan_185 : decode cX5_plan 185 = .ok (.imul, 1) := by decide +kernel
theorem dX5_plan_186 : decode cX5_plan 186 = .ok (.iload 6, 2) := by decide +kernel
theorem dX5_plan_188 : decode cX5_plan 188 = .ok (.iadd, 1) := by decide +kernel
theorem dX5_plan_189 : decode cX5_plan 189 = .ok (.iload 4, 2) := by decide +kernel
theorem dX5_plan_191 : decode cX5_plan 191 = .ok (.iconst 5, 1) := by decide +kernel
theorem dX5_plan_192 : decode cX5_plan 192 = .ok (.irem, 1) := by decide +kernel
theorem dX5_plan_193 : decode cX5_plan 193 = .ok (.iastore, 1) := by decide +kernel
theorem dX5_plan_194 : decode cX5_plan 194 = .ok (.iload 4, 2) := by decide +kernel
theorem dX5_plan_196 : decode cX5_plan 196 = .ok (.iconst 5, 1) := by decide +kernel
theorem dX5_plan_197 : decode cX5_plan 197 = .ok (.idiv, 1) := by decide +kernel
theorem dX5_plan_198 : decode cX5_plan 198 = .ok (.istore 4, 2) := by decide +kernel
theorem dX5_plan_200 : decode cX5_plan 200 = .ok (.iinc 6 (-1), 3) := by decide +kernel
theorem dX5_plan_203 : decode cX5_plan 203 = .ok (.goto (-30), 3) := by decide +kernel
theorem dX5_plan_206 : decode cX5_plan 206 = .ok (.iload 5, 2) := by decide +kernel
theorem dX5_plan_208 : decode cX5_plan 208 = .ok (.ireturn, 1) := by decide +kernel
theorem dX5_rakes_0 : decode cX5_rakes 0 = .ok (.iload_n 1, 1) := by decide +kernel
theorem dX5_rakes_1 : decode cX5_rakes 1 = .ok (.i2l, 1) := by decide +kernel
theorem dX5_rakes_2 : decode cX5_rakes 2 = .ok (.lconst 1, 1) := by decide +kernel
theorem dX5_rakes_3 : decode cX5_rakes 3 = .ok (.ldc2_w 172, 3) := by decide +kernel
theorem dX5_rakes_6 : decode cX5_rakes 6 = .ok (.invokestatic 63, 3) := by decide +kernel
theorem dX5_rakes_9 : decode cX5_rakes 9 = .ok (.ifCond .eq 15, 3) := by decide +kernel
theorem dX5_rakes_12 : decode cX5_rakes 12 = .ok (.iload_n 2, 1) := by decide +kernel
theorem dX5_rakes_13 : decode cX5_rakes 13 = .ok (.i2l, 1) := by decide +kernel
theorem dX5_rakes_14 : decode cX5_rakes 14 = .ok (.lconst 0, 1) := by decide +kernel
theorem dX5_rakes_15 : decode cX5_rakes 15 = .ok (.ldc2_w 174, 3) := by decide +kernel
theorem dX5_rakes_18 : decode cX5_rakes 18 = .ok (.invokestatic 63, 3) := by decide +kernel
theorem dX5_rakes_21 : decode cX5_rakes 21 = .ok (.ifCond .ne 5, 3) := by decide +kernel
theorem dX5_rakes_24 : decode cX5_rakes 24 = .ok (.iconst (-1), 1) := by decide +kernel
theorem dX5_rakes_25 : decode cX5_rakes 25 = .ok (.ireturn, 1) := by decide +kernel
theorem dX5_rakes_26 : decode cX5_rakes 26 = .ok (.aload_n 0, 1) := by decide +kernel
theorem dX5_rakes_27 : decode cX5_rakes 27 = .ok (.getfield 97, 3) := by decide +kernel
theorem dX5_rakes_30 : decode cX5_rakes 30 = .ok (.ifCond .ne 6, 3) := by decide +kernel
theorem dX5_rakes_33 : decode cX5_rakes 33 = .ok (.bipush (-4), 2) := by decide +kernel
theorem dX5_rakes_35 : decode cX5_rakes 35 = .ok (.ireturn, 1) := by decide +kernel
theorem dX5_rakes_36 : decode cX5_rakes 36 = .ok (.bipush (-9), 2) := by decide +kernel
theorem dX5_rakes_38 : decode cX5_rakes 38 = .ok (.istore_n 3, 1) := by decide +kernel
theorem dX5_rakes_39 : decode cX5_rakes 39 = .ok (.iconst 0, 1) := by decide +kernel
theorem dX5_rakes_40 : decode cX5_rakes 40 = .ok (.istore 4, 2) := by decide +kernel
theorem dX5_rakes_42 : decode cX5_rakes 42 = .ok (.iload 4, 2) := by decide +kernel
theorem dX5_rakes_44 : decode cX5_rakes 44 = .ok (.iconst 1, 1) := by decide +kernel
theorem dX5_rakes_45 : decode cX5_rakes 45 = .ok (.iload_n 1, 1) := by decide +kernel
theorem dX5_rakes_46 : decode cX5_rakes 46 = .ok (.ishl, 1) := by decide +kernel
theorem dX5_rakes_47 : decode cX5_rakes 47 = .ok (.if_icmp .ge 103, 3) := by decide +kernel
theorem dX5_rakes_50 : decode cX5_rakes 50 = .ok (.aload_n 0, 1) := by decide +kernel
theorem dX5_rakes_51 : decode cX5_rakes 51 = .ok (.invokevirtual 164, 3) := by decide +kernel
theorem dX5_rakes_54 : decode cX5_rakes 54 = .ok (.iconst 0, 1) := by decide +kernel
theorem dX5_rakes_55 : decode cX5_rakes 55 = .ok (.istore 5, 2) := by decide +kernel
theorem dX5_rakes_57 : decode cX5_rakes 57 = .ok (.iconst 0, 1) := by decide +kernel
theorem dX5_rakes_58 : decode cX5_rakes 58 = .ok (.istore 6, 2) := by decide +kernel
theorem dX5_rakes_60 : decode cX5_rakes 60 = .ok (.iload 6, 2) := by decide +kernel
theorem dX5_rakes_62 : decode cX5_rakes 62 = .ok (.iload_n 1, 1) := by decide +kernel
theorem dX5_rakes_63 : decode cX5_rakes 63 = .ok (.if_icmp .ge 52, 3) := by decide +kernel
theorem dX5_rakes_66 : decode cX5_rakes 66 = .ok (.aload_n 0, 1) := by decide +kernel
theorem dX5_rakes_67 : decode cX5_rakes 67 = .ok (.getfield 41, 3) := by decide +kernel
theorem dX5_rakes_70 : decode cX5_rakes 70 = .ok (.sipush 986, 3) := by decide +kernel
theorem dX5_rakes_73 : decode cX5_rakes 73 = .ok (.iload 4, 2) := by decide +kernel
theorem dX5_rakes_75 : decode cX5_rakes 75 = .ok (.iload 6, 2) := by decide +kernel
theorem dX5_rakes_77 : decode cX5_rakes 77 = .ok (.invokestatic 109, 3) := by decide +kernel
theorem dX5_rakes_80 : decode cX5_rakes 80 = .ok (.ifCond .eq 7, 3) := by decide +kernel
theorem dX5_rakes_83 : decode cX5_rakes 83 = .ok (.iconst 0, 1) := by decide +kernel
theorem dX5_rakes_84 : decode cX5_rakes 84 = .ok (.goto 11, 3) := by decide +kernel
theorem dX5_rakes_87 : decode cX5_rakes 87 = .ok (.aload_n 0, 1) := by decide +kernel
theorem dX5_rakes_88 : decode cX5_rakes 88 = .ok (.getfield 41, 3) := by decide +kernel
theorem dX5_rakes_91 : decode cX5_rakes 91 = .ok (.sipush 986, 3) := by decide +kernel
theorem dX5_rakes_94 : decode cX5_rakes 94 = .ok (.iaload, 1) := by decide +kernel
theorem dX5_rakes_95 : decode cX5_rakes 95 = .ok (.iastore, 1) := by decide +kernel
theorem dX5_rakes_96 : decode cX5_rakes 96 = .ok (.iload 5, 2) := by decide +kernel
theorem dX5_rakes_98 : decode cX5_rakes 98 = .ok (.aload_n 0, 1) := by decide +kernel
theorem dX5_rakes_99 : decode cX5_rakes 99 = .ok (.sipush 984, 3) := by decide +kernel
theorem dX5_rakes_102 : decode cX5_rakes 102 = .ok (.iconst 0, 1) := by decide +kernel
theorem dX5_rakes_103 : decode cX5_rakes 103 = .ok (.invokevirtual 156, 3) := by decide +kernel
theorem dX5_rakes_106 : decode cX5_rakes 106 = .ok (.iadd, 1) := by decide +kernel
theorem dX5_rakes_107 : decode cX5_rakes 107 = .ok (.istore 5, 2) := by decide +kernel
theorem dX5_rakes_109 : decode cX5_rakes 109 = .ok (.iinc 6 1, 3) := by decide +kernel
theorem dX5_rakes_112 : decode cX5_rakes 112 = .ok (.goto (-52), 3) := by decide +kernel
theorem dX5_rakes_115 : decode cX5_rakes 115 = .ok (.iload 5, 2) := by decide +kernel
theorem dX5_rakes_117 : decode cX5_rakes 117 = .ok (.iload_n 2, 1) := by decide +kernel
theorem dX5_rakes_118 : decode cX5_rakes 118 = .ok (.if_icmp .lt 24, 3) := by decide +kernel
theorem dX5_rakes_121 : decode cX5_rakes 121 = .ok (.iload_n 3, 1) := by decide +kernel
theorem dX5_rakes_122 : decode cX5_rakes 122 = .ok (.ifCond .lt 15, 3) := by decide +kernel
theorem dX5_rakes_125 : decode cX5_rakes 125 = .ok (.iload 4, 2) := by decide +kernel
theorem dX5_rakes_127 : decode cX5_rakes 127 = .ok (.invokestatic 176, 3) := by decide +kernel
theorem dX5_rakes_130 : decode cX5_rakes 130 = .ok (.iload_n 3, 1) := by decide +kernel
theorem dX5_rakes_131 : decode cX5_rakes 131 = .ok (.invokestatic 176, 3) := by decide +kernel
theorem dX5_rakes_134 : decode cX5_rakes 134 = .ok (.if_icmp .ge 8, 3) := by decide +kernel
theorem dX5_rakes_137 : decode cX5_rakes 137 = .ok (.iload 4, 2) := by decide +kernel
theorem dX5_rakes_139 : decode cX5_rakes 139 = .ok (.goto 4, 3) := by decide +kernel
theorem dX5_rakes_142 : decode cX5_rakes 142 = .ok (.iload_n 3, 1) := by decide +kernel
theorem dX5_rakes_143 : decode cX5_rakes 143 = .ok (.istore_n 3, 1) := by decide +kernel
theorem dX5_rakes_144 : decode cX5_rakes 144 = .ok (.iinc 4 1, 3) := by decide +kernel
theorem dX5_rakes_147 : decode cX5_rakes 147 = .ok (.goto (-105), 3) := by decide +kernel
theorem dX5_rakes_150 : decode cX5_rakes 150 = .ok (.iload_n 3, 1) := by decide +kernel
theorem dX5_rakes_151 : decode cX5_rakes 151 = .ok (.ifCond .ge 6, 3) := by decide +kernel
theorem dX5_rakes_154 : decode cX5_rakes 154 = .ok (.bipush (-9), 2) := by decide +kernel
theorem dX5_rakes_156 : decode cX5_rakes 156 = .ok (.ireturn, 1) := by decide +kernel
theorem dX5_rakes_157 : decode cX5_rakes 157 = .ok (.aload_n 0, 1) := by decide +kernel
theorem dX5_rakes_158 : decode cX5_rakes 158 = .ok (.iload_n 3, 1) := by decide +kernel
theorem dX5_rakes_159 : decode cX5_rakes 159 = .ok (.putfield 75, 3) := by decide +kernel
theorem dX5_rakes_162 : decode cX5_rakes 162 = .ok (.iload_n 3, 1) := by decide +kernel
theorem dX5_rakes_163 : decode cX5_rakes 163 = .ok (.invokestatic 176, 3) := by decide +kernel
theorem dX5_rakes_166 : decode cX5_rakes 166 = .ok (.ireturn, 1) := by decide +kernel
theorem dX5_fishes_0 : decode cX5_fishes 0 = .ok (.iload_n 1, 1) := by decide +kernel
theorem dX5_fishes_1 : decode cX5_fishes 1 = .ok (.i2l, 1) := by decide +kernel
theorem dX5_fishes_2 : decode cX5_fishes 2 = .ok (.lconst 1, 1) := by decide +kernel
theorem dX5_fishes_3 : decode cX5_fishes 3 = .ok (.ldc2_w 170, 3) := by decide +kernel
theorem dX5_fishes_6 : decode cX5_fishes 6 = .ok (.invokestatic 63, 3) := by decide +kernel
theorem dX5_fishes_9 : decode cX5_fishes 9 = .ok (.ifCond .ne 5, 3) := by decide +kernel
theorem dX5_fishes_12 : decode cX5_fishes 12 = .ok (.iconst (-1), 1) := by decide +kernel
theorem dX5_fishes_13 : decode cX5_fishes 13 = .ok (.ireturn, 1) := by decide +kernel
theorem dX5_fishes_14 : decode cX5_fishes 14 = .ok (.aload_n 0, 1) := by decide +kernel
theorem dX5_fishes_15 : decode cX5_fishes 15 = .ok (.getfield 97, 3) := by decide +kernel
theorem dX5_fishes_18 : decode cX5_fishes 18 = .ok (.ifCond .ne 6, 3) := by decide +kernel
theorem dX5_fishes_21 : decode cX5_fishes 21 = .ok (.bipush (-4), 2) := by decide +kernel
theorem dX5_fishes_23 : decode cX5_fishes 23 = .ok (.ireturn, 1) := by decide +kernel
theorem dX5_fishes_24 : decode cX5_fishes 24 = .ok (.aload_n 0, 1) := by decide +kernel
theorem dX5_fishes_25 : decode cX5_fishes 25 = .ok (.invokevirtual 164, 3) := by decide +kernel
theorem dX5_fishes_28 : decode cX5_fishes 28 = .ok (.aload_n 0, 1) := by decide +kernel
theorem dX5_fishes_29 : decode cX5_fishes 29 = .ok (.iload_n 1, 1) := by decide +kernel
theorem dX5_fishes_30 : decode cX5_fishes 30 = .ok (.invokevirtual 167, 3) := by decide +kernel
theorem dX5_fishes_33 : decode cX5_fishes 33 = .ok (.istore_n 2, 1) := by decide +kernel
theorem dX5_fishes_34 : decode cX5_fishes 34 = .ok (.bipush (-9), 2) := by decide +kernel
theorem dX5_fishes_36 : decode cX5_fishes 36 = .ok (.istore_n 3, 1) := by decide +kernel
theorem dX5_fishes_37 : decode cX5_fishes 37 = .ok (.iconst 0, 1) := by decide +kernel
theorem dX5_fishes_38 : decode cX5_fishes 38 = .ok (.istore 4, 2) := by decide +kernel
theorem dX5_fishes_40 : decode cX5_fishes 40 = .ok (.iload 4, 2) := by decide +kernel
theorem dX5_fishes_42 : decode cX5_fishes 42 = .ok (.aload_n 0, 1) := by decide +kernel
theorem dX5_fishes_43 : decode cX5_fishes 43 = .ok (.getfield 97, 3) := by decide +kernel
theorem dX5_fishes_46 : decode cX5_fishes 46 = .ok (.if_icmp .ge 55, 3) := by decide +kernel
theorem dX5_fishes_49 : decode cX5_fishes 49 = .ok (.aload_n 0, 1) := by decide +kernel
theorem dX5_fishes_50 : decode cX5_fishes 50 = .ok (.invokevirtual 164, 3) := by decide +kernel
theorem dX5_fishes_53 : decode cX5_fishes 53 = .ok (.aload_n 0, 1) := by decide +kernel
theorem dX5_fishes_54 : decode cX5_fishes 54 = .ok (.getfield 41, 3) := by decide +kernel
theorem dX5_fishes_57 : decode cX5_fishes 57 = .ok (.sipush 989, 3) := by decide +kernel
theorem dX5_fishes_60 : decode cX5_fishes 60 = .ok (.dup2, 1) := by decide +kernel
theorem dX5_fishes_61 : decode cX5_fishes 61 = .ok (.iaload, 1) := by decide +kernel
theorem dX5_fishes_62 : decode cX5_fishes 62 = .ok (.iconst 1, 1) := by decide +kernel
theorem dX5_fishes_63 : decode cX5_fishes 63 = .ok (.iload 4, 2) := by decide +kernel
theorem dX5_fishes_65 : decode cX5_fishes 65 = .ok (.ishl, 1) := by decide +kernel
theorem dX5_fishes_66 : decode cX5_fishes 66 = .ok (.ior, 1) := by decide +kernel
theorem dX5_fishes_67 : decode cX5_fishes 67 = .ok (.iastore, 1) := by decide +kernel
theorem dX5_fishes_68 : decode cX5_fishes 68 = .ok (.aload_n 0, 1) := by decide +kernel
theorem dX5_fishes_69 : decode cX5_fishes 69 = .ok (.iload_n 1, 1) := by decide +kernel
theorem dX5_fishes_70 : decode cX5_fishes 70 = .ok (.invokevirtual 167, 3) := by decide +kernel
theorem dX5_fishes_73 : decode cX5_fishes 73 = .ok (.istore 5, 2) := by decide +kernel
theorem dX5_fishes_75 : decode cX5_fishes 75 = .ok (.iload 5, 2) := by decide +kernel
theorem dX5_fishes_77 : decode cX5_fishes 77 = .ok (.iload_n 2, 1) := by decide +kernel
theorem dX5_fishes_78 : decode cX5_fishes 78 = .ok (.if_icmp .le 8, 3) := by decide +kernel
theorem dX5_fishes_81 : decode cX5_fishes 81 = .ok (.iload 4, 2) := by decide +kernel
theorem dX5_fishes_83 : decode cX5_fishes 83 = .ok (.goto 4, 3) := by decide +kernel
theorem dX5_fishes_86 : decode cX5_fishes 86 = .ok (.iload_n 3, 1) := by decide +kernel
theorem dX5_fishes_87 : decode cX5_fishes 87 = .ok (.istore_n 3, 1) := by decide +kernel
theorem dX5_fishes_88 : decode cX5_fishes 88 = .ok (.iload_n 2, 1) := by decide +kernel
theorem dX5_fishes_89 : decode cX5_fishes 89 = .ok (.iload 5, 2) := by decide +kernel
theorem dX5_fishes_91 : decode cX5_fishes 91 = .ok (.invokestatic 106, 3) := by decide +kernel
theorem dX5_fishes_94 : decode cX5_fishes 94 = .ok (.istore_n 2, 1) := by decide +kernel
theorem dX5_fishes_95 : decode cX5_fishes 95 = .ok (.iinc 4 1, 3) := by decide +kernel
theorem dX5_fishes_98 : decode cX5_fishes 98 = .ok (.goto (-58), 3) := by decide +kernel
theorem dX5_fishes_101 : decode cX5_fishes 101 = .ok (.aload_n 0, 1) := by decide +kernel
theorem dX5_fishes_102 : decode cX5_fishes 102 = .ok (.iload_n 3, 1) := by decide +kernel
theorem dX5_fishes_103 : decode cX5_fishes 103 = .ok (.ifCond .ge 10, 3) := by decide +kernel
theorem dX5_fishes_106 : decode cX5_fishes 106 = .ok (.aload_n 0, 1) := by decide +kernel
theorem dX5_fishes_107 : decode cX5_fishes 107 = .ok (.getfield 75, 3) := by decide +kernel
theorem dX5_fishes_110 : decode cX5_fishes 110 = .ok (.goto 4, 3) := by decide +kernel
theorem dX5_fishes_113 : decode cX5_fishes 113 = .ok (.iload_n 2, 1) := by decide +kernel
theorem dX5_fishes_114 : decode cX5_fishes 114 = .ok (.putfield 75, 3) := by decide +kernel
theorem dX5_fishes_117 : decode cX5_fishes 117 = .ok (.iload_n 3, 1) := by decide +kernel
theorem dX5_fishes_118 : decode cX5_fishes 118 = .ok (.ireturn, 1) := by decide +kernel
theorem dX5_wrongRow_0 : decode cX5_wrongRow 0 = .ok (.aload_n 0, 1) := by decide +kernel
theorem dX5_wrongRow_1 : decode cX5_wrongRow 1 = .ok (.getfield 7, 3) := by decide +kernel
theorem dX5_wrongRow_4 : decode cX5_wrongRow 4 = .ok (.iload_n 1, 1) := by decide +kernel
theorem dX5_wrongRow_5 : decode cX5_wrongRow 5 = .ok (.iaload, 1) := by decide +kernel
theorem dX5_wrongRow_6 : decode cX5_wrongRow 6 = .ok (.ifCond .ge 5, 3) := by decide +kernel
theorem dX5_wrongRow_9 : decode cX5_wrongRow 9 = .ok (.iconst 1, 1) := by decide +kernel
theorem dX5_wrongRow_10 : decode cX5_wrongRow 10 = .ok (.ireturn, 1) := by decide +kernel
theorem dX5_wrongRow_11 : decode cX5_wrongRow 11 = .ok (.aload_n 0, 1) := by decide +kernel
theorem dX5_wrongRow_12 : decode cX5_wrongRow 12 = .ok (.getfield 7, 3) := by decide +kernel
theorem dX5_wrongRow_15 : decode cX5_wrongRow 15 = .ok (.iload_n 1, 1) := by decide +kernel
theorem dX5_wrongRow_16 : decode cX5_wrongRow 16 = .ok (.iaload, 1) := by decide +kernel
theorem dX5_wrongRow_17 : decode cX5_wrongRow 17 = .ok (.i2l, 1) := by decide +kernel
theorem dX5_wrongRow_18 : decode cX5_wrongRow 18 = .ok (.lconst 1, 1) := by decide +kernel
theorem dX5_wrongRow_19 : decode cX5_wrongRow 19 = .ok (.ldc2_w 170, 3) := by decide +kernel
theorem dX5_wrongRow_22 : decode cX5_wrongRow 22 = .ok (.invokestatic 63, 3) := by decide +kernel
theorem dX5_wrongRow_25 : decode cX5_wrongRow 25 = .ok (.ifCond .ne 5, 3) := by decide +kernel
theorem dX5_wrongRow_28 : decode cX5_wrongRow 28 = .ok (.iconst 5, 1) := by decide +kernel
theorem dX5_wrongRow_29 : decode cX5_wrongRow 29 = .ok (.ireturn, 1) := by decide +kernel
theorem dX5_wrongRow_30 : decode cX5_wrongRow 30 = .ok (.iconst 0, 1) := by decide +kernel
theorem dX5_wrongRow_31 : decode cX5_wrongRow 31 = .ok (.istore_n 2, 1) := by decide +kernel
theorem dX5_wrongRow_32 : decode cX5_wrongRow 32 = .ok (.iconst 0, 1) := by decide +kernel
theorem dX5_wrongRow_33 : decode cX5_wrongRow 33 = .ok (.istore_n 3, 1) := by decide +kernel
theorem dX5_wrongRow_34 : decode cX5_wrongRow 34 = .ok (.iload_n 3, 1) := by decide +kernel
theorem dX5_wrongRow_35 : decode cX5_wrongRow 35 = .ok (.aload_n 0, 1) := by decide +kernel
theorem dX5_wrongRow_36 : decode cX5_wrongRow 36 = .ok (.getfield 7, 3) := by decide +kernel
theorem dX5_wrongRow_39 : decode cX5_wrongRow 39 = .ok (.iload_n 1, 1) := by decide +kernel
theorem dX5_wrongRow_40 : decode cX5_wrongRow 40 = .ok (.iaload, 1) := by decide +kernel
theorem dX5_wrongRow_41 : decode cX5_wrongRow 41 = .ok (.if_icmp .ge 29, 3) := by decide +kernel
theorem dX5_wrongRow_44 : decode cX5_wrongRow 44 = .ok (.aload_n 0, 1) := by decide +kernel
theorem dX5_wrongRow_45 : decode cX5_wrongRow 45 = .ok (.getfield 13, 3) := by decide +kernel
theorem dX5_wrongRow_48 : decode cX5_wrongRow 48 = .ok (.bipush 40, 2) := by decide +kernel
theorem dX5_wrongRow_50 : decode cX5_wrongRow 50 = .ok (.iload_n 1, 1) := by decide +kernel
theorem dX5_wrongRow_51 : decode cX5_wrongRow 51 = .ok (.imul, 1) := by decide +kernel
theorem dX5_wrongRow_52 : decode cX5_wrongRow 52 = .ok (.iload_n 3, 1) := by decide +kernel
theorem dX5_wrongRow_53 : decode cX5_wrongRow 53 = .ok (.iadd, 1) := by decide +kernel
theorem dX5_wrongRow_54 : decode cX5_wrongRow 54 = .ok (.iaload, 1) := by decide +kernel
theorem dX5_wrongRow_55 : decode cX5_wrongRow 55 = .ok (.ifCond .ge 7, 3) := by decide +kernel
theorem dX5_wrongRow_58 : decode cX5_wrongRow 58 = .ok (.iconst 3, 1) := by decide +kernel
theorem dX5_wrongRow_59 : decode cX5_wrongRow 59 = .ok (.goto 4, 3) := by decide +kernel
theorem dX5_wrongRow_62 : decode cX5_wrongRow 62 = .ok (.iload_n 2, 1) := by decide +kernel
theorem dX5_wrongRow_63 : decode cX5_wrongRow 63 = .ok (.istore_n 2, 1) := by decide +kernel
theorem dX5_wrongRow_64 : decode cX5_wrongRow 64 = .ok (.iinc 3 1, 3) := by decide +kernel
theorem dX5_wrongRow_67 : decode cX5_wrongRow 67 = .ok (.goto (-33), 3) := by decide +kernel
theorem dX5_wrongRow_70 : decode cX5_wrongRow 70 = .ok (.iload_n 2, 1) := by decide +kernel
theorem dX5_wrongRow_71 : decode cX5_wrongRow 71 = .ok (.ireturn, 1) := by decide +kernel
theorem dX5_isGround_0 : decode cX5_isGround 0 = .ok (.iconst 1, 1) := by decide +kernel
theorem dX5_isGround_1 : decode cX5_isGround 1 = .ok (.istore_n 2, 1) := by decide +kernel
theorem dX5_isGround_2 : decode cX5_isGround 2 = .ok (.iconst 0, 1) := by decide +kernel
theorem dX5_isGround_3 : decode cX5_isGround 3 = .ok (.istore_n 3, 1) := by decide +kernel
theorem dX5_isGround_4 : decode cX5_isGround 4 = .ok (.iload_n 3, 1) := by decide +kernel
theorem dX5_isGround_5 : decode cX5_isGround 5 = .ok (.aload_n 0, 1) := by decide +kernel
theorem dX5_isGround_6 : decode cX5_isGround 6 = .ok (.getfield 7, 3) := by decide +kernel
theorem dX5_isGround_9 : decode cX5_isGround 9 = .ok (.iload_n 1, 1) := by decide +kernel
theorem dX5_isGround_10 : decode cX5_isGround 10 = .ok (.iaload, 1) := by decide +kernel
theorem dX5_isGround_11 : decode cX5_isGround 11 = .ok (.if_icmp .ge 41, 3) := by decide +kernel
theorem dX5_isGround_14 : decode cX5_isGround 14 = .ok (.aload_n 0, 1) := by decide +kernel
theorem dX5_isGround_15 : decode cX5_isGround 15 = .ok (.sipush 984, 3) := by decide +kernel
theorem dX5_isGround_18 : decode cX5_isGround 18 = .ok (.iconst 0, 1) := by decide +kernel
theorem dX5_isGround_19 : decode cX5_isGround 19 = .ok (.invokevirtual 156, 3) := by decide +kernel
theorem dX5_isGround_22 : decode cX5_isGround 22 = .ok (.aload_n 0, 1) := by decide +kernel
theorem dX5_isGround_23 : decode cX5_isGround 23 = .ok (.getfield 13, 3) := by decide +kernel
theorem dX5_isGround_26 : decode cX5_isGround 26 = .ok (.bipush 40, 2) := by decide +kernel
theorem dX5_isGround_28 : decode cX5_isGround 28 = .ok (.iload_n 1, 1) := by decide +kernel
theorem dX5_isGround_29 : decode cX5_isGround 29 = .ok (.imul, 1) := by decide +kernel
theorem dX5_isGround_30 : decode cX5_isGround 30 = .ok (.iload_n 3, 1) := by decide +kernel
theorem dX5_isGround_31 : decode cX5_isGround 31 = .ok (.iadd, 1) := by decide +kernel
theorem dX5_isGround_32 : decode cX5_isGround 32 = .ok (.iaload, 1) := by decide +kernel
theorem dX5_isGround_33 : decode cX5_isGround 33 = .ok (.if_icmp .ne 11, 3) := by decide +kernel
theorem dX5_isGround_36 : decode cX5_isGround 36 = .ok (.iload_n 2, 1) := by decide +kernel
theorem dX5_isGround_37 : decode cX5_isGround 37 = .ok (.ifCond .eq 7, 3) := by decide +kernel
theorem dX5_isGround_40 : decode cX5_isGround 40 = .ok (.iconst 1, 1) := by decide +kernel
theorem dX5_isGround_41 : decode cX5_isGround 41 = .ok (.goto 4, 3) := by decide +kernel
theorem dX5_isGround_44 : decode cX5_isGround 44 = .ok (.iconst 0, 1) := by decide +kernel
theorem dX5_isGround_45 : decode cX5_isGround 45 = .ok (.istore_n 2, 1) := by decide +kernel
theorem dX5_isGround_46 : decode cX5_isGround 46 = .ok (.iinc 3 1, 3) := by decide +kernel
theorem dX5_isGround_49 : decode cX5_isGround 49 = .ok (.goto (-45), 3) := by decide +kernel
theorem dX5_isGround_52 : decode cX5_isGround 52 = .ok (.iload_n 2, 1) := by decide +kernel
theorem dX5_isGround_53 : decode cX5_isGround 53 = .ok (.ireturn, 1) := by decide +kernel
theorem dX5_where_0 : decode cX5_where 0 = .ok (.iload_n 1, 1) := by decide +kernel
theorem dX5_where_1 : decode cX5_where 1 = .ok (.i2l, 1) := by decide +kernel
theorem dX5_where_2 : decode cX5_where 2 = .ok (.lconst 0, 1) := by decide +kernel
theorem dX5_where_3 : decode cX5_where 3 = .ok (.ldc2_w 61, 3) := by decide +kernel
theorem dX5_where_6 : decode cX5_where 6 = .ok (.invokestatic 63, 3) := by decide +kernel
theorem dX5_where_9 : decode cX5_where 9 = .ok (.ifCond .ne 5, 3) := by decide +kernel
theorem dX5_where_12 : decode cX5_where 12 = .ok (.iconst (-1), 1) := by decide +kernel
theorem dX5_where_13 : decode cX5_where 13 = .ok (.ireturn, 1) := by decide +kernel
theorem dX5_where_14 : decode cX5_where 14 = .ok (.aload_n 0, 1) := by decide +kernel
theorem dX5_where_15 : decode cX5_where 15 = .ok (.getfield 97, 3) := by decide +kernel
theorem dX5_where_18 : decode cX5_where 18 = .ok (.ifCond .ne 6, 3) := by decide +kernel
theorem dX5_where_21 : decode cX5_where 21 = .ok (.bipush (-4), 2) := by decide +kernel
theorem dX5_where_23 : decode cX5_where 23 = .ok (.ireturn, 1) := by decide +kernel
theorem dX5_where_24 : decode cX5_where 24 = .ok (.aload_n 0, 1) := by decide +kernel
theorem dX5_where_25 : decode cX5_where 25 = .ok (.iload_n 1, 1) := by decide +kernel
theorem dX5_where_26 : decode cX5_where 26 = .ok (.invokevirtual 179, 3) := by decide +kernel
theorem dX5_where_29 : decode cX5_where 29 = .ok (.istore_n 2, 1) := by decide +kernel
theorem dX5_where_30 : decode cX5_where 30 = .ok (.iload_n 2, 1) := by decide +kernel
theorem dX5_where_31 : decode cX5_where 31 = .ok (.ifCond .le 9, 3) := by decide +kernel
theorem dX5_where_34 : decode cX5_where 34 = .ok (.aload_n 0, 1) := by decide +kernel
theorem dX5_where_35 : decode cX5_where 35 = .ok (.iload_n 2, 1) := by decide +kernel
theorem dX5_where_36 : decode cX5_where 36 = .ok (.invokevirtual 67, 3) := by decide +kernel
theorem dX5_where_39 : decode cX5_where 39 = .ok (.ireturn, 1) := by decide +kernel
theorem dX5_where_40 : decode cX5_where 40 = .ok (.iconst 0, 1) := by decide +kernel
theorem dX5_where_41 : decode cX5_where 41 = .ok (.istore_n 3, 1) := by decide +kernel
theorem dX5_where_42 : decode cX5_where 42 = .ok (.iconst 0, 1) := by decide +kernel
theorem dX5_where_43 : decode cX5_where 43 = .ok (.istore 4, 2) := by decide +kernel
theorem dX5_where_45 : decode cX5_where 45 = .ok (.iload 4, 2) := by decide +kernel
theorem dX5_where_47 : decode cX5_where 47 = .ok (.aload_n 0, 1) := by decide +kernel
theorem dX5_where_48 : decode cX5_where 48 = .ok (.getfield 97, 3) := by decide +kernel
theorem dX5_where_51 : decode cX5_where 51 = .ok (.if_icmp .ge 42, 3) := by decide +kernel
theorem dX5_where_54 : decode cX5_where 54 = .ok (.aload_n 0, 1) := by decide +kernel
theorem dX5_where_55 : decode cX5_where 55 = .ok (.invokevirtual 164, 3) := by decide +kernel
theorem dX5_where_58 : decode cX5_where 58 = .ok (.aload_n 0, 1) := by decide +kernel
theorem dX5_where_59 : decode cX5_where 59 = .ok (.getfield 41, 3) := by decide +kernel
theorem dX5_where_62 : decode cX5_where 62 = .ok (.sipush 984, 3) := by decide +kernel
theorem dX5_where_65 : decode cX5_where 65 = .ok (.iload 4, 2) := by decide +kernel
theorem dX5_where_67 : decode cX5_where 67 = .ok (.iastore, 1) := by decide +kernel
theorem dX5_where_68 : decode cX5_where 68 = .ok (.iload_n 3, 1) := by decide +kernel
theorem dX5_where_69 : decode cX5_where 69 = .ok (.aload_n 0, 1) := by decide +kernel
theorem dX5_where_70 : decode cX5_where 70 = .ok (.iload_n 1, 1) := by decide +kernel
theorem dX5_where_71 : decode cX5_where 71 = .ok (.invokevirtual 182, 3) := by decide +kernel
theorem dX5_where_74 : decode cX5_where 74 = .ok (.ifCond .eq 10, 3) := by decide +kernel
theorem dX5_where_77 : decode cX5_where 77 = .ok (.iconst 1, 1) := by decide +kernel
theorem dX5_where_78 : decode cX5_where 78 = .ok (.iload 4, 2) := by decide +kernel
theorem dX5_where_80 : decode cX5_where 80 = .ok (.ishl, 1) := by decide +kernel
theorem dX5_where_81 : decode cX5_where 81 = .ok (.goto 4, 3) := by decide +kernel
theorem dX5_where_84 : decode cX5_where 84 = .ok (.iconst 0, 1) := by decide +kernel
theorem dX5_where_85 : decode cX5_where 85 = .ok (.ior, 1) := by decide +kernel
theorem dX5_where_86 : decode cX5_where 86 = .ok (.istore_n 3, 1) := by decide +kernel
theorem dX5_where_87 : decode cX5_where 87 = .ok (.iinc 4 1, 3) := by decide +kernel
theorem dX5_where_90 : decode cX5_where 90 = .ok (.goto (-45), 3) := by decide +kernel
theorem dX5_where_93 : decode cX5_where 93 = .ok (.iload_n 3, 1) := by decide +kernel
theorem dX5_where_94 : decode cX5_where 94 = .ok (.ireturn, 1) := by decide +kernel
theorem dX5_flows_0 : decode cX5_flows 0 = .ok (.aload_n 0, 1) := by decide +kernel
theorem dX5_flows_1 : decode cX5_flows 1 = .ok (.iload_n 1, 1) := by decide +kernel
theorem dX5_flows_2 : decode cX5_flows 2 = .ok (.invokevirtual 133, 3) := by decide +kernel
theorem dX5_flows_5 : decode cX5_flows 5 = .ok (.ifCond .eq 15, 3) := by decide +kernel
theorem dX5_flows_8 : decode cX5_flows 8 = .ok (.iload_n 2, 1) := by decide +kernel
theorem dX5_flows_9 : decode cX5_flows 9 = .ok (.i2l, 1) := by decide +kernel
theorem dX5_flows_10 : decode cX5_flows 10 = .ok (.lconst 0, 1) := by decide +kernel
theorem dX5_flows_11 : decode cX5_flows 11 = .ok (.ldc2_w 61, 3) := by decide +kernel
theorem dX5_flows_14 : decode cX5_flows 14 = .ok (.invokestatic 63, 3) := by decide +kernel
theorem dX5_flows_17 : decode cX5_flows 17 = .ok (.ifCond .ne 5, 3) := by decide +kernel
theorem dX5_flows_20 : decode cX5_flows 20 = .ok (.iconst (-1), 1) := by decide +kernel
theorem dX5_flows_21 : decode cX5_flows 21 = .ok (.ireturn, 1) := by decide +kernel
theorem dX5_flows_22 : decode cX5_flows 22 = .ok (.aload_n 0, 1) := by decide +kernel
theorem dX5_flows_23 : decode cX5_flows 23 = .ok (.iload_n 2, 1) := by decide +kernel
theorem dX5_flows_24 : decode cX5_flows 24 = .ok (.invokevirtual 179, 3) := by decide +kernel
theorem dX5_flows_27 : decode cX5_flows 27 = .ok (.istore_n 3, 1) := by decide +kernel
theorem dX5_flows_28 : decode cX5_flows 28 = .ok (.iload_n 3, 1) := by decide +kernel
theorem dX5_flows_29 : decode cX5_flows 29 = .ok (.ifCond .le 9, 3) := by decide +kernel
theorem dX5_flows_32 : decode cX5_flows 32 = .ok (.aload_n 0, 1) := by decide +kernel
theorem dX5_flows_33 : decode cX5_flows 33 = .ok (.iload_n 3, 1) := by decide +kernel
theorem dX5_flows_34 : decode cX5_flows 34 = .ok (.invokevirtual 67, 3) := by decide +kernel
theorem dX5_flows_37 : decode cX5_flows 37 = .ok (.ireturn, 1) := by decide +kernel
theorem dX5_flows_38 : decode cX5_flows 38 = .ok (.aload_n 0, 1) := by decide +kernel
theorem dX5_flows_39 : decode cX5_flows 39 = .ok (.getfield 26, 3) := by decide +kernel
theorem dX5_flows_42 : decode cX5_flows 42 = .ok (.iload_n 1, 1) := by decide +kernel
theorem dX5_flows_43 : decode cX5_flows 43 = .ok (.iaload, 1) := by decide +kernel
theorem dX5_flows_44 : decode cX5_flows 44 = .ok (.istore 4, 2) := by decide +kernel
theorem dX5_flows_46 : decode cX5_flows 46 = .ok (.iconst 0, 1) := by decide +kernel
theorem dX5_flows_47 : decode cX5_flows 47 = .ok (.istore 5, 2) := by decide +kernel
theorem dX5_flows_49 : decode cX5_flows 49 = .ok (.iconst 0, 1) := by decide +kernel
theorem dX5_flows_50 : decode cX5_flows 50 = .ok (.istore 6, 2) := by decide +kernel
theorem dX5_flows_52 : decode cX5_flows 52 = .ok (.iload 6, 2) := by decide +kernel
theorem dX5_flows_54 : decode cX5_flows 54 = .ok (.bipush 10, 2) := by decide +kernel
theorem dX5_flows_56 : decode cX5_flows 56 = .ok (.if_icmp .ge 42, 3) := by decide +kernel
theorem dX5_flows_59 : decode cX5_flows 59 = .ok (.aload_n 0, 1) := by decide +kernel
theorem dX5_flows_60 : decode cX5_flows 60 = .ok (.getfield 26, 3) := by decide +kernel
theorem dX5_flows_63 : decode cX5_flows 63 = .ok (.iload_n 1, 1) := by decide +kernel
theorem dX5_flows_64 : decode cX5_flows 64 = .ok (.iload 6, 2) := by decide +kernel
theorem dX5_flows_66 : decode cX5_flows 66 = .ok (.iastore, 1) := by decide +kernel
theorem dX5_flows_67 : decode cX5_flows 67 = .ok (.aload_n 0, 1) := by decide +kernel
theorem dX5_flows_68 : decode cX5_flows 68 = .ok (.invokevirtual 164, 3) := by decide +kernel
theorem dX5_flows_71 : decode cX5_flows 71 = .ok (.iload 5, 2) := by decide +kernel
theorem dX5_flows_73 : decode cX5_flows 73 = .ok (.aload_n 0, 1) := by decide +kernel
theorem dX5_flows_74 : decode cX5_flows 74 = .ok (.iload_n 2, 1) := by decide +kernel
theorem dX5_flows_75 : decode cX5_flows 75 = .ok (.invokevirtual 182, 3) := by decide +kernel
theorem dX5_flows_78 : decode cX5_flows 78 = .ok (.ifCond .eq 10, 3) := by decide +kernel
theorem dX5_flows_81 : decode cX5_flows 81 = .ok (.iconst 1, 1) := by decide +kernel
theorem dX5_flows_82 : decode cX5_flows 82 = .ok (.iload 6, 2) := by decide +kernel
theorem dX5_flows_84 : decode cX5_flows 84 = .ok (.ishl, 1) := by decide +kernel
theorem dX5_flows_85 : decode cX5_flows 85 = .ok (.goto 4, 3) := by decide +kernel
theorem dX5_flows_88 : decode cX5_flows 88 = .ok (.iconst 0, 1) := by decide +kernel
theorem dX5_flows_89 : decode cX5_flows 89 = .ok (.ior, 1) := by decide +kernel
theorem dX5_flows_90 : decode cX5_flows 90 = .ok (.istore 5, 2) := by decide +kernel
theorem dX5_flows_92 : decode cX5_flows 92 = .ok (.iinc 6 1, 3) := by decide +kernel
theorem dX5_flows_95 : decode cX5_flows 95 = .ok (.goto (-43), 3) := by decide +kernel
theorem dX5_flows_98 : decode cX5_flows 98 = .ok (.aload_n 0, 1) := by decide +kernel
theorem dX5_flows_99 : decode cX5_flows 99 = .ok (.getfield 26, 3) := by decide +kernel
theorem dX5_flows_102 : decode cX5_flows 102 = .ok (.iload_n 1, 1) := by decide +kernel
theorem dX5_flows_103 : decode cX5_flows 103 = .ok (.iload 4, 2) := by decide +kernel
theorem dX5_flows_105 : decode cX5_flows 105 = .ok (.iastore, 1) := by decide +kernel
theorem dX5_flows_106 : decode cX5_flows 106 = .ok (.iload 5, 2) := by decide +kernel
theorem dX5_flows_108 : decode cX5_flows 108 = .ok (.ireturn, 1) := by decide +kernel
theorem dX5_kinds_0 : decode cX5_kinds 0 = .ok (.aload_n 0, 1) := by decide +kernel
theorem dX5_kinds_1 : decode cX5_kinds 1 = .ok (.iload_n 1, 1) := by decide +kernel
theorem dX5_kinds_2 : decode cX5_kinds 2 = .ok (.invokevirtual 133, 3) := by decide +kernel
theorem dX5_kinds_5 : decode cX5_kinds 5 = .ok (.ifCond .eq 15, 3) := by decide +kernel
theorem dX5_kinds_8 : decode cX5_kinds 8 = .ok (.iload_n 2, 1) := by decide +kernel
theorem dX5_kinds_9 : decode cX5_kinds 9 = .ok (.i2l, 1) := by decide +kernel
theorem dX5_kinds_10 : decode cX5_kinds 10 = .ok (.lconst 0, 1) := by decide +kernel
theorem dX5_kinds_11 : decode cX5_kinds 11 = .ok (.ldc2_w 61, 3) := by decide +kernel
theorem dX5_kinds_14 : decode cX5_kinds 14 = .ok (.invokestatic 63, 3) := by decide +kernel
theorem dX5_kinds_17 : decode cX5_kinds 17 = .ok (.ifCond .ne 5, 3) := by decide +kernel
theorem dX5_kinds_20 : decode cX5_kinds 20 = .ok (.iconst (-1), 1) := by decide +kernel
theorem dX5_kinds_21 : decode cX5_kinds 21 = .ok (.ireturn, 1) := by decide +kernel
theorem dX5_kinds_22 : decode cX5_kinds 22 = .ok (.aload_n 0, 1) := by decide +kernel
theorem dX5_kinds_23 : decode cX5_kinds 23 = .ok (.iload_n 2, 1) := by decide +kernel
theorem dX5_kinds_24 : decode cX5_kinds 24 = .ok (.invokevirtual 179, 3) := by decide +kernel
theorem dX5_kinds_27 : decode cX5_kinds 27 = .ok (.istore_n 3, 1) := by decide +kernel
theorem dX5_kinds_28 : decode cX5_kinds 28 = .ok (.iload_n 3, 1) := by decide +kernel
theorem dX5_kinds_29 : decode cX5_kinds 29 = .ok (.ifCond .le 9, 3) := by decide +kernel
theorem dX5_kinds_32 : decode cX5_kinds 32 = .ok (.aload_n 0, 1) := by decide +kernel
theorem dX5_kinds_33 : decode cX5_kinds 33 = .ok (.iload_n 3, 1) := by decide +kernel
theorem dX5_kinds_34 : decode cX5_kinds 34 = .ok (.invokevirtual 67, 3) := by decide +kernel
theorem dX5_kinds_37 : decode cX5_kinds 37 = .ok (.ireturn, 1) := by decide +kernel
theorem dX5_kinds_38 : decode cX5_kinds 38 = .ok (.aload_n 0, 1) := by decide +kernel
theorem dX5_kinds_39 : decode cX5_kinds 39 = .ok (.getfield 23, 3) := by decide +kernel
theorem dX5_kinds_42 : decode cX5_kinds 42 = .ok (.iload_n 1, 1) := by decide +kernel
theorem dX5_kinds_43 : decode cX5_kinds 43 = .ok (.iaload, 1) := by decide +kernel
theorem dX5_kinds_44 : decode cX5_kinds 44 = .ok (.istore 4, 2) := by decide +kernel
theorem dX5_kinds_46 : decode cX5_kinds 46 = .ok (.iconst 0, 1) := by decide +kernel
theorem dX5_kinds_47 : decode cX5_kinds 47 = .ok (.istore 5, 2) := by decide +kernel
theorem dX5_kinds_49 : decode cX5_kinds 49 = .ok (.iconst 0, 1) := by decide +kernel
theorem dX5_kinds_50 : decode cX5_kinds 50 = .ok (.istore 6, 2) := by decide +kernel
theorem dX5_kinds_52 : decode cX5_kinds 52 = .ok (.iload 6, 2) := by decide +kernel
theorem dX5_kinds_54 : decode cX5_kinds 54 = .ok (.bipush 6, 2) := by decide +kernel
theorem dX5_kinds_56 : decode cX5_kinds 56 = .ok (.if_icmp .ge 42, 3) := by decide +kernel
theorem dX5_kinds_59 : decode cX5_kinds 59 = .ok (.aload_n 0, 1) := by decide +kernel
theorem dX5_kinds_60 : decode cX5_kinds 60 = .ok (.getfield 23, 3) := by decide +kernel
theorem dX5_kinds_63 : decode cX5_kinds 63 = .ok (.iload_n 1, 1) := by decide +kernel
theorem dX5_kinds_64 : decode cX5_kinds 64 = .ok (.iload 6, 2) := by decide +kernel
theorem dX5_kinds_66 : decode cX5_kinds 66 = .ok (.iastore, 1) := by decide +kernel
theorem dX5_kinds_67 : decode cX5_kinds 67 = .ok (.aload_n 0, 1) := by decide +kernel
theorem dX5_kinds_68 : decode cX5_kinds 68 = .ok (.invokevirtual 164, 3) := by decide +kernel
theorem dX5_kinds_71 : decode cX5_kinds 71 = .ok (.iload 5, 2) := by decide +kernel
theorem dX5_kinds_73 : decode cX5_kinds 73 = .ok (.aload_n 0, 1) := by decide +kernel
theorem dX5_kinds_74 : decode cX5_kinds 74 = .ok (.iload_n 2, 1) := by decide +kernel
theorem dX5_kinds_75 : decode cX5_kinds 75 = .ok (.invokevirtual 182, 3) := by decide +kernel
theorem dX5_kinds_78 : decode cX5_kinds 78 = .ok (.ifCond .eq 10, 3) := by decide +kernel
theorem dX5_kinds_81 : decode cX5_kinds 81 = .ok (.iconst 1, 1) := by decide +kernel
theorem dX5_kinds_82 : decode cX5_kinds 82 = .ok (.iload 6, 2) := by decide +kernel
theorem dX5_kinds_84 : decode cX5_kinds 84 = .ok (.ishl, 1) := by decide +kernel
theorem dX5_kinds_85 : decode cX5_kinds 85 = .ok (.goto 4, 3) := by decide +kernel
theorem dX5_kinds_88 : decode cX5_kinds 88 = .ok (.iconst 0, 1) := by decide +kernel
theorem dX5_kinds_89 : decode cX5_kinds 89 = .ok (.ior, 1) := by decide +kernel
theorem dX5_kinds_90 : decode cX5_kinds 90 = .ok (.istore 5, 2) := by decide +kernel
theorem dX5_kinds_92 : decode cX5_kinds 92 = .ok (.iinc 6 1, 3) := by decide +kernel
theorem dX5_kinds_95 : decode cX5_kinds 95 = .ok (.goto (-43), 3) := by decide +kernel
theorem dX5_kinds_98 : decode cX5_kinds 98 = .ok (.aload_n 0, 1) := by decide +kernel
theorem dX5_kinds_99 : decode cX5_kinds 99 = .ok (.getfield 23, 3) := by decide +kernel
theorem dX5_kinds_102 : decode cX5_kinds 102 = .ok (.iload_n 1, 1) := by decide +kernel
theorem dX5_kinds_103 : decode cX5_kinds 103 = .ok (.iload 4, 2) := by decide +kernel
theorem dX5_kinds_105 : decode cX5_kinds 105 = .ok (.iastore, 1) := by decide +kernel
theorem dX5_kinds_106 : decode cX5_kinds 106 = .ok (.iload 5, 2) := by decide +kernel
theorem dX5_kinds_108 : decode cX5_kinds 108 = .ok (.ireturn, 1) := by decide +kernel
theorem dX5_greatest_0 : decode cX5_greatest 0 = .ok (.aload_n 0, 1) := by decide +kernel
theorem dX5_greatest_1 : decode cX5_greatest 1 = .ok (.invokevirtual 123, 3) := by decide +kernel
theorem dX5_greatest_4 : decode cX5_greatest 4 = .ok (.istore_n 3, 1) := by decide +kernel
theorem dX5_greatest_5 : decode cX5_greatest 5 = .ok (.iconst 0, 1) := by decide +kernel
theorem dX5_greatest_6 : decode cX5_greatest 6 = .ok (.istore 4, 2) := by decide +kernel
theorem dX5_greatest_8 : decode cX5_greatest 8 = .ok (.iconst 0, 1) := by decide +kernel
theorem dX5_greatest_9 : decode cX5_greatest 9 = .ok (.istore 5, 2) := by decide +kernel
theorem dX5_greatest_11 : decode cX5_greatest 11 = .ok (.iload 5, 2) := by decide +kernel
theorem dX5_greatest_13 : decode cX5_greatest 13 = .ok (.bipush 6, 2) := by decide +kernel
theorem dX5_greatest_15 : decode cX5_greatest 15 = .ok (.if_icmp .ge 102, 3) := by decide +kernel
theorem dX5_greatest_18 : decode cX5_greatest 18 = .ok (.iconst 0, 1) := by decide +kernel
theorem dX5_greatest_19 : decode cX5_greatest 19 = .ok (.istore 6, 2) := by decide +kernel
theorem dX5_greatest_21 : decode cX5_greatest 21 = .ok (.iconst 0, 1) := by decide +kernel
theorem dX5_greatest_22 : decode cX5_greatest 22 = .ok (.istore 7, 2) := by decide +kernel
theorem dX5_greatest_24 : decode cX5_greatest 24 = .ok (.iload 7, 2) := by decide +kernel
theorem dX5_greatest_26 : decode cX5_greatest 26 = .ok (.bipush 6, 2) := by decide +kernel
theorem dX5_greatest_28 : decode cX5_greatest 28 = .ok (.if_icmp .ge 74, 3) := by decide +kernel
theorem dX5_greatest_31 : decode cX5_greatest 31 = .ok (.iload 6, 2) := by decide +kernel
theorem dX5_greatest_33 : decode cX5_greatest 33 = .ok (.iload 5, 2) := by decide +kernel
theorem dX5_greatest_35 : decode cX5_greatest 35 = .ok (.aload_n 0, 1) := by decide +kernel
theorem dX5_greatest_36 : decode cX5_greatest 36 = .ok (.getfield 26, 3) := by decide +kernel
theorem dX5_greatest_39 : decode cX5_greatest 39 = .ok (.iload_n 1, 1) := by decide +kernel
theorem dX5_greatest_40 : decode cX5_greatest 40 = .ok (.iaload, 1) := by decide +kernel
theorem dX5_greatest_41 : decode cX5_greatest 41 = .ok (.aload_n 0, 1) := by decide +kernel
theorem dX5_greatest_42 : decode cX5_greatest 42 = .ok (.iload_n 3, 1) := by decide +kernel
theorem dX5_greatest_43 : decode cX5_greatest 43 = .ok (.iload_n 1, 1) := by decide +kernel
theorem dX5_greatest_44 : decode cX5_greatest 44 = .ok (.invokevirtual 113, 3) := by decide +kernel
theorem dX5_greatest_47 : decode cX5_greatest 47 = .ok (.iload_n 2, 1) := by decide +kernel
theorem dX5_greatest_48 : decode cX5_greatest 48 = .ok (.aload_n 0, 1) := by decide +kernel
theorem dX5_greatest_49 : decode cX5_greatest 49 = .ok (.getfield 41, 3) := by decide +kernel
theorem dX5_greatest_52 : decode cX5_greatest 52 = .ok (.iload_n 3, 1) := by decide +kernel
theorem dX5_greatest_53 : decode cX5_greatest 53 = .ok (.iconst 2, 1) := by decide +kernel
theorem dX5_greatest_54 : decode cX5_greatest 54 = .ok (.iadd, 1) := by decide +kernel
theorem dX5_greatest_55 : decode cX5_greatest 55 = .ok (.iaload, 1) := by decide +kernel
theorem dX5_greatest_56 : decode cX5_greatest 56 = .ok (.invokestatic 116, 3) := by decide +kernel
theorem dX5_greatest_59 : decode cX5_greatest 59 = .ok (.iload 7, 2) := by decide +kernel
theorem dX5_greatest_61 : decode cX5_greatest 61 = .ok (.aload_n 0, 1) := by decide +kernel
theorem dX5_greatest_62 : decode cX5_greatest 62 = .ok (.getfield 26, 3) := by decide +kernel
theorem dX5_greatest_65 : decode cX5_greatest 65 = .ok (.iload_n 1, 1) := by decide +kernel
theorem dX5_greatest_66 : decode cX5_greatest 66 = .ok (.iaload, 1) := by decide +kernel
theorem dX5_greatest_67 : decode cX5_greatest 67 = .ok (.aload_n 0, 1) := by decide +kernel
theorem dX5_greatest_68 : decode cX5_greatest 68 = .ok (.iload_n 3, 1) := by decide +kernel
theorem dX5_greatest_69 : decode cX5_greatest 69 = .ok (.iload_n 1, 1) := by decide +kernel
theorem dX5_greatest_70 : decode cX5_greatest 70 = .ok (.invokevirtual 113, 3) := by decide +kernel
theorem dX5_greatest_73 : decode cX5_greatest 73 = .ok (.iload_n 2, 1) := by decide +kernel
theorem dX5_greatest_74 : decode cX5_greatest 74 = .ok (.aload_n 0, 1) := by decide +kernel
theorem dX5_greatest_75 : decode cX5_greatest 75 = .ok (.getfield 41, 3) := by decide +kernel
theorem dX5_greatest_78 : decode cX5_greatest 78 = .ok (.iload_n 3, 1) := by decide +kernel
theorem dX5_greatest_79 : decode cX5_greatest 79 = .ok (.iconst 2, 1) := by decide +kernel
theorem dX5_greatest_80 : decode cX5_greatest 80 = .ok (.iadd, 1) := by decide +kernel
theorem dX5_greatest_81 : decode cX5_greatest 81 = .ok (.iaload, 1) := by decide +kernel
theorem dX5_greatest_82 : decode cX5_greatest 82 = .ok (.invokestatic 116, 3) := by decide +kernel
theorem dX5_greatest_85 : decode cX5_greatest 85 = .ok (.if_icmp .ne 7, 3) := by decide +kernel
theorem dX5_greatest_88 : decode cX5_greatest 88 = .ok (.iconst 1, 1) := by decide +kernel
theorem dX5_greatest_89 : decode cX5_greatest 89 = .ok (.goto 4, 3) := by decide +kernel
theorem dX5_greatest_92 : decode cX5_greatest 92 = .ok (.iconst 0, 1) := by decide +kernel
theorem dX5_greatest_93 : decode cX5_greatest 93 = .ok (.iadd, 1) := by decide +kernel
theorem dX5_greatest_94 : decode cX5_greatest 94 = .ok (.istore 6, 2) := by decide +kernel
theorem dX5_greatest_96 : decode cX5_greatest 96 = .ok (.iinc 7 1, 3) := by decide +kernel
theorem dX5_greatest_99 : decode cX5_greatest 99 = .ok (.goto (-75), 3) := by decide +kernel
theorem dX5_greatest_102 : decode cX5_greatest 102 = .ok (.iload 4, 2) := by decide +kernel
theorem dX5_greatest_104 : decode cX5_greatest 104 = .ok (.iload 6, 2) := by decide +kernel
theorem dX5_greatest_106 : decode cX5_greatest 106 = .ok (.invokestatic 106, 3) := by decide +kernel
theorem dX5_greatest_109 : decode cX5_greatest 109 = .ok (.istore 4, 2) := by decide +kernel
theorem dX5_greatest_111 : decode cX5_greatest 111 = .ok (.iinc 5 1, 3) := by decide +kernel
theorem dX5_greatest_114 : decode cX5_greatest 114 = .ok (.goto (-103), 3) := by decide +kernel
theorem dX5_greatest_117 : decode cX5_greatest 117 = .ok (.iload 4, 2) := by decide +kernel
theorem dX5_greatest_119 : decode cX5_greatest 119 = .ok (.ireturn, 1) := by decide +kernel
theorem dX5_look_0 : decode cX5_look 0 = .ok (.aload_n 0, 1) := by decide +kernel
theorem dX5_look_1 : decode cX5_look 1 = .ok (.iload_n 1, 1) := by decide +kernel
theorem dX5_look_2 : decode cX5_look 2 = .ok (.invokevirtual 133, 3) := by decide +kernel
theorem dX5_look_5 : decode cX5_look 5 = .ok (.ifCond .ne 5, 3) := by decide +kernel
theorem dX5_look_8 : decode cX5_look 8 = .ok (.iconst (-1), 1) := by decide +kernel
theorem dX5_look_9 : decode cX5_look 9 = .ok (.ireturn, 1) := by decide +kernel
theorem dX5_look_10 : decode cX5_look 10 = .ok (.iconst 0, 1) := by decide +kernel
theorem dX5_look_11 : decode cX5_look 11 = .ok (.istore_n 2, 1) := by decide +kernel
theorem dX5_look_12 : decode cX5_look 12 = .ok (.iconst 1, 1) := by decide +kernel
theorem dX5_look_13 : decode cX5_look 13 = .ok (.istore_n 3, 1) := by decide +kernel
theorem dX5_look_14 : decode cX5_look 14 = .ok (.iload_n 3, 1) := by decide +kernel
theorem dX5_look_15 : decode cX5_look 15 = .ok (.iconst 5, 1) := by decide +kernel
theorem dX5_look_16 : decode cX5_look 16 = .ok (.if_icmp .ge 30, 3) := by decide +kernel
theorem dX5_look_19 : decode cX5_look 19 = .ok (.aload_n 0, 1) := by decide +kernel
theorem dX5_look_20 : decode cX5_look 20 = .ok (.iload_n 1, 1) := by decide +kernel
theorem dX5_look_21 : decode cX5_look 21 = .ok (.iload_n 3, 1) := by decide +kernel
theorem dX5_look_22 : decode cX5_look 22 = .ok (.invokevirtual 185, 3) := by decide +kernel
theorem dX5_look_25 : decode cX5_look 25 = .ok (.aload_n 0, 1) := by decide +kernel
theorem dX5_look_26 : decode cX5_look 26 = .ok (.iload_n 1, 1) := by decide +kernel
theorem dX5_look_27 : decode cX5_look 27 = .ok (.iload_n 2, 1) := by decide +kernel
theorem dX5_look_28 : decode cX5_look 28 = .ok (.invokevirtual 185, 3) := by decide +kernel
theorem dX5_look_31 : decode cX5_look 31 = .ok (.if_icmp .ge 7, 3) := by decide +kernel
theorem dX5_look_34 : decode cX5_look 34 = .ok (.iload_n 3, 1) := by decide +kernel
theorem dX5_look_35 : decode cX5_look 35 = .ok (.goto 4, 3) := by decide +kernel
theorem dX5_look_38 : decode cX5_look 38 = .ok (.iload_n 2, 1) := by decide +kernel
theorem dX5_look_39 : decode cX5_look 39 = .ok (.istore_n 2, 1) := by decide +kernel
theorem dX5_look_40 : decode cX5_look 40 = .ok (.iinc 3 1, 3) := by decide +kernel
theorem dX5_look_43 : decode cX5_look 43 = .ok (.goto (-29), 3) := by decide +kernel
theorem dX5_look_46 : decode cX5_look 46 = .ok (.aload_n 0, 1) := by decide +kernel
theorem dX5_look_47 : decode cX5_look 47 = .ok (.aload_n 0, 1) := by decide +kernel
theorem dX5_look_48 : decode cX5_look 48 = .ok (.iload_n 1, 1) := by decide +kernel
theorem dX5_look_49 : decode cX5_look 49 = .ok (.iload_n 2, 1) := by decide +kernel
theorem dX5_look_50 : decode cX5_look 50 = .ok (.invokevirtual 185, 3) := by decide +kernel
theorem dX5_look_53 : decode cX5_look 53 = .ok (.putfield 75, 3) := by decide +kernel
theorem dX5_look_56 : decode cX5_look 56 = .ok (.iload_n 2, 1) := by decide +kernel
theorem dX5_look_57 : decode cX5_look 57 = .ok (.ireturn, 1) := by decide +kernel
theorem dX5_played_0 : decode cX5_played 0 = .ok (.aload_n 0, 1) := by decide +kernel
theorem dX5_played_1 : decode cX5_played 1 = .ok (.invokevirtual 164, 3) := by decide +kernel
theorem dX5_played_4 : decode cX5_played 4 = .ok (.iload_n 2, 1) := by decide +kernel
theorem dX5_played_5 : decode cX5_played 5 = .ok (.istore_n 3, 1) := by decide +kernel
theorem dX5_played_6 : decode cX5_played 6 = .ok (.iconst 0, 1) := by decide +kernel
theorem dX5_played_7 : decode cX5_played 7 = .ok (.istore 4, 2) := by decide +kernel
theorem dX5_played_9 : decode cX5_played 9 = .ok (.iload 4, 2) := by decide +kernel
theorem dX5_played_11 : decode cX5_played 11 = .ok (.iload_n 1, 1) := by decide +kernel
theorem dX5_played_12 : decode cX5_played 12 = .ok (.if_icmp .ge 134, 3) := by decide +kernel
theorem dX5_played_15 : decode cX5_played 15 = .ok (.iload_n 3, 1) := by decide +kernel
theorem dX5_played_16 : decode cX5_played 16 = .ok (.iload 4, 2) := by decide +kernel
theorem dX5_played_18 : decode cX5_played 18 = .ok (.iconst 2, 1) := by decide +kernel
theorem dX5_played_19 : decode cX5_played 19 = .ok (.irem, 1) := by decide +kernel
theorem dX5_played_20 : decode cX5_played 20 = .ok (.ifCond .ne 7, 3) := by decide +kernel
theorem dX5_played_23 : decode cX5_played 23 = .ok (.iconst 3, 1) := by decide +kernel
theorem dX5_played_24 : decode cX5_played 24 = .ok (.goto 4, 3) := by decide +kernel
theorem dX5_played_27 : decode cX5_played 27 = .ok (.iconst 2, 1) := by decide +kernel
theorem dX5_played_28 : decode cX5_played 28 = .ok (.irem, 1) := by decide +kernel
theorem dX5_played_29 : decode cX5_played 29 = .ok (.istore 5, 2) := by decide +kernel
theorem dX5_played_31 : decode cX5_played 31 = .ok (.iload_n 3, 1) := by decide +kernel
theorem dX5_played_32 : decode cX5_played 32 = .ok (.iload 4, 2) := by decide +kernel
theorem dX5_played_34 : decode cX5_played 34 = .ok (.iconst 2, 1) := by decide +kernel
theorem dX5_played_35 : decode cX5_played 35 = .ok (.irem, 1) := by decide +kernel
theorem dX5_played_36 : decode cX5_played 36 = .ok (.ifCond .ne 7, 3) := by decide +kernel
theorem dX5_played_39 : decode cX5_played 39 = .ok (.iconst 3, 1) := by decide +kernel
theorem dX5_played_40 : decode cX5_played 40 = .ok (.goto 4, 3) := by decide +kernel
theorem dX5_played_43 : decode cX5_played 43 = .ok (.iconst 2, 1) := by decide +kernel
theorem dX5_played_44 : decode cX5_played 44 = .ok (.idiv, 1) := by decide +kernel
theorem dX5_played_45 : decode cX5_played 45 = .ok (.istore_n 3, 1) := by decide +kernel
theorem dX5_played_46 : decode cX5_played 46 = .ok (.iload 4, 2) := by decide +kernel
theorem dX5_played_48 : decode cX5_played 48 = .ok (.iconst 2, 1) := by decide +kernel
theorem dX5_played_49 : decode cX5_played 49 = .ok (.irem, 1) := by decide +kernel
theorem dX5_played_50 : decode cX5_played 50 = .ok (.ifCond .ne 64, 3) := by decide +kernel
theorem dX5_played_53 : decode cX5_played 53 = .ok (.aload_n 0, 1) := by decide +kernel
theorem dX5_played_54 : decode cX5_played 54 = .ok (.getfield 41, 3) := by decide +kernel
theorem dX5_played_57 : decode cX5_played 57 = .ok (.sipush 986, 3) := by decide +kernel
theorem dX5_played_60 : decode cX5_played 60 = .ok (.iload 5, 2) := by decide +kernel
theorem dX5_played_62 : decode cX5_played 62 = .ok (.iconst 1, 1) := by decide +kernel
theorem dX5_played_63 : decode cX5_played 63 = .ok (.if_icmp .ne 7, 3) := by decide +kernel
theorem dX5_played_66 : decode cX5_played 66 = .ok (.iconst 0, 1) := by decide +kernel
theorem dX5_played_67 : decode cX5_played 67 = .ok (.goto 11, 3) := by decide +kernel
theorem dX5_played_70 : decode cX5_played 70 = .ok (.aload_n 0, 1) := by decide +kernel
theorem dX5_played_71 : decode cX5_played 71 = .ok (.getfield 41, 3) := by decide +kernel
theorem dX5_played_74 : decode cX5_played 74 = .ok (.sipush 986, 3) := by decide +kernel
theorem dX5_played_77 : decode cX5_played 77 = .ok (.iaload, 1) := by decide +kernel
theorem dX5_played_78 : decode cX5_played 78 = .ok (.iastore, 1) := by decide +kernel
theorem dX5_played_79 : decode cX5_played 79 = .ok (.aload_n 0, 1) := by decide +kernel
theorem dX5_played_80 : decode cX5_played 80 = .ok (.getfield 41, 3) := by decide +kernel
theorem dX5_played_83 : decode cX5_played 83 = .ok (.sipush 985, 3) := by decide +kernel
theorem dX5_played_86 : decode cX5_played 86 = .ok (.iconst 4, 1) := by decide +kernel
theorem dX5_played_87 : decode cX5_played 87 = .ok (.aload_n 0, 1) := by decide +kernel
theorem dX5_played_88 : decode cX5_played 88 = .ok (.getfield 41, 3) := by decide +kernel
theorem dX5_played_91 : decode cX5_played 91 = .ok (.sipush 985, 3) := by decide +kernel
theorem dX5_played_94 : decode cX5_played 94 = .ok (.iaload, 1) := by decide +kernel
theorem dX5_played_95 : decode cX5_played 95 = .ok (.iload 5, 2) := by decide +kernel
theorem dX5_played_97 : decode cX5_played 97 = .ok (.iconst 2, 1) := by decide +kernel
theorem dX5_played_98 : decode cX5_played 98 = .ok (.if_icmp .ne 7, 3) := by decide +kernel
theorem dX5_played_101 : decode cX5_played 101 = .ok (.iconst 1, 1) := by decide +kernel
theorem dX5_played_102 : decode cX5_played 102 = .ok (.goto 4, 3) := by decide +kernel
theorem dX5_played_105 : decode cX5_played 105 = .ok (.iconst 0, 1) := by decide +kernel
theorem dX5_played_106 : decode cX5_played 106 = .ok (.iadd, 1) := by decide +kernel
theorem dX5_played_107 : decode cX5_played 107 = .ok (.invokestatic 103, 3) := by decide +kernel
theorem dX5_played_110 : decode cX5_played 110 = .ok (.iastore, 1) := by decide +kernel
theorem dX5_played_111 : decode cX5_played 111 = .ok (.goto 29, 3) := by decide +kernel
theorem dX5_played_114 : decode cX5_played 114 = .ok (.aload_n 0, 1) := by decide +kernel
theorem dX5_played_115 : decode cX5_played 115 = .ok (.getfield 41, 3) := by decide +kernel
theorem dX5_played_118 : decode cX5_played 118 = .ok (.sipush 986, 3) := by decide +kernel
theorem dX5_played_121 : decode cX5_played 121 = .ok (.bipush 40, 2) := by decide +kernel
theorem dX5_played_123 : decode cX5_played 123 = .ok (.aload_n 0, 1) := by decide +kernel
theorem dX5_played_124 : decode cX5_played 124 = .ok (.getfield 41, 3) := by decide +kernel
theorem dX5_played_127 : decode cX5_played 127 = .ok (.sipush 986, 3) := by decide +kernel
theorem dX5_played_130 : decode cX5_played 130 = .ok (.iaload, 1) := by decide +kernel
theorem dX5_played_131 : decode cX5_played 131 = .ok (.iconst 5, 1) := by decide +kernel
theorem dX5_played_132 : decode cX5_played 132 = .ok (.iload 5, 2) := by decide +kernel
theorem dX5_played_134 : decode cX5_played 134 = .ok (.imul, 1) := by decide +kernel
theorem dX5_played_135 : decode cX5_played 135 = .ok (.iadd, 1) := by decide +kernel
theorem dX5_played_136 : decode cX5_played 136 = .ok (.invokestatic 103, 3) := by decide +kernel
theorem dX5_played_139 : decode cX5_played 139 = .ok (.iastore, 1) := by decide +kernel
theorem dX5_played_140 : decode cX5_played 140 = .ok (.iinc 4 1, 3) := by decide +kernel
theorem dX5_played_143 : decode cX5_played 143 = .ok (.goto (-134), 3) := by decide +kernel
theorem dX5_played_146 : decode cX5_played 146 = .ok (.aload_n 0, 1) := by decide +kernel
theorem dX5_played_147 : decode cX5_played 147 = .ok (.bipush 8, 2) := by decide +kernel
theorem dX5_played_149 : decode cX5_played 149 = .ok (.invokevirtual 167, 3) := by decide +kernel
theorem dX5_played_152 : decode cX5_played 152 = .ok (.ireturn, 1) := by decide +kernel
theorem dX5_duel_0 : decode cX5_duel 0 = .ok (.iload_n 1, 1) := by decide +kernel
theorem dX5_duel_1 : decode cX5_duel 1 = .ok (.i2l, 1) := by decide +kernel
theorem dX5_duel_2 : decode cX5_duel 2 = .ok (.lconst 0, 1) := by decide +kernel
theorem dX5_duel_3 : decode cX5_duel 3 = .ok (.ldc2_w 188, 3) := by decide +kernel
theorem dX5_duel_6 : decode cX5_duel 6 = .ok (.invokestatic 63, 3) := by decide +kernel
theorem dX5_duel_9 : decode cX5_duel 9 = .ok (.ifCond .ne 5, 3) := by decide +kernel
theorem dX5_duel_12 : decode cX5_duel 12 = .ok (.iconst (-1), 1) := by decide +kernel
theorem dX5_duel_13 : decode cX5_duel 13 = .ok (.ireturn, 1) := by decide +kernel
theorem dX5_duel_14 : decode cX5_duel 14 = .ok (.aload_n 0, 1) := by decide +kernel
theorem dX5_duel_15 : decode cX5_duel 15 = .ok (.getfield 97, 3) := by decide +kernel
theorem dX5_duel_18 : decode cX5_duel 18 = .ok (.ifCond .ne 6, 3) := by decide +kernel
theorem dX5_duel_21 : decode cX5_duel 21 = .ok (.bipush (-4), 2) := by decide +kernel
theorem dX5_duel_23 : decode cX5_duel 23 = .ok (.ireturn, 1) := by decide +kernel
theorem dX5_duel_24 : decode cX5_duel 24 = .ok (.iconst 1, 1) := by decide +kernel
theorem dX5_duel_25 : decode cX5_duel 25 = .ok (.istore_n 2, 1) := by decide +kernel
theorem dX5_duel_26 : decode cX5_duel 26 = .ok (.iconst 0, 1) := by decide +kernel
theorem dX5_duel_27 : decode cX5_duel 27 = .ok (.istore_n 3, 1) := by decide +kernel
theorem dX5_duel_28 : decode cX5_duel 28 = .ok (.iload_n 3, 1) := by decide +kernel
theorem dX5_duel_29 : decode cX5_duel 29 = .ok (.iload_n 1, 1) := by decide +kernel
theorem dX5_duel_30 : decode cX5_duel 30 = .ok (.if_icmp .ge 23, 3) := by decide +kernel
theorem dX5_duel_33 : decode cX5_duel 33 = .ok (.iload_n 2, 1) := by decide +kernel
theorem dX5_duel_34 : decode cX5_duel 34 = .ok (.iload_n 3, 1) := by decide +kernel
theorem dX5_duel_35 : decode cX5_duel 35 = .ok (.iconst 2, 1) := by decide +kernel
theorem dX5_duel_36 : decode cX5_duel 36 = .ok (.irem, 1) := by decide +kernel
theorem dX5_duel_37 : decode cX5_duel 37 = .ok (.ifCond .ne 7, 3) := by decide +kernel
theorem dX5_duel_40 : decode cX5_duel 40 = .ok (.iconst 3, 1) := by decide +kernel
theorem dX5_duel_41 : decode cX5_duel 41 = .ok (.goto 4, 3) := by decide +kernel
theorem dX5_duel_44 : decode cX5_duel 44 = .ok (.iconst 2, 1) := by decide +kernel
theorem dX5_duel_45 : decode cX5_duel 45 = .ok (.imul, 1) := by decide +kernel
theorem dX5_duel_46 : decode cX5_duel 46 = .ok (.istore_n 2, 1) := by decide +kernel
theorem dX5_duel_47 : decode cX5_duel 47 = .ok (.iinc 3 1, 3) := by decide +kernel
theorem dX5_duel_50 : decode cX5_duel 50 = .ok (.goto (-22), 3) := by decide +kernel
theorem dX5_duel_53 : decode cX5_duel 53 = .ok (.iconst 0, 1) := by decide +kernel
theorem dX5_duel_54 : decode cX5_duel 54 = .ok (.istore_n 3, 1) := by decide +kernel
theorem dX5_duel_55 : decode cX5_duel 55 = .ok (.iload_n 3, 1) := by decide +kernel
theorem dX5_duel_56 : decode cX5_duel 56 = .ok (.iload_n 2, 1) := by decide +kernel
theorem dX5_duel_57 : decode cX5_duel 57 = .ok (.if_icmp .ge 21, 3) := by decide +kernel
theorem dX5_duel_60 : decode cX5_duel 60 = .ok (.aload_n 0, 1) := by decide +kernel
theorem dX5_duel_61 : decode cX5_duel 61 = .ok (.getfield 54, 3) := by decide +kernel
theorem dX5_duel_64 : decode cX5_duel 64 = .ok (.iload_n 3, 1) := by decide +kernel
theorem dX5_duel_65 : decode cX5_duel 65 = .ok (.aload_n 0, 1) := by decide +kernel
theorem dX5_duel_66 : decode cX5_duel 66 = .ok (.iload_n 1, 1) := by decide +kernel
theorem dX5_duel_67 : decode cX5_duel 67 = .ok (.iload_n 3, 1) := by decide +kernel
theorem dX5_duel_68 : decode cX5_duel 68 = .ok (.invokevirtual 190, 3) := by decide +kernel
theorem dX5_duel_71 : decode cX5_duel 71 = .ok (.iastore, 1) := by decide +kernel
theorem dX5_duel_72 : decode cX5_duel 72 = .ok (.iinc 3 1, 3) := by decide +kernel
theorem dX5_duel_75 : decode cX5_duel 75 = .ok (.goto (-20), 3) := by decide +kernel
end
section
theorem dX5_duel_78 : decode cX5_duel 78 = .ok (.iload_n 1, 1) := by decide +kernel
theorem dX5_duel_79 : decode cX5_duel 79 = .ok (.iconst 1, 1) := by decide +kernel
theorem dX5_duel_80 : decode cX5_duel 80 = .ok (.isub, 1) := by decide +kernel
theorem dX5_duel_81 : decode cX5_duel 81 = .ok (.istore_n 3, 1) := by decide +kernel
theorem dX5_duel_82 : decode cX5_duel 82 = .ok (.iload_n 3, 1) := by decide +kernel
theorem dX5_duel_83 : decode cX5_duel 83 = .ok (.ifCond .lt 121, 3) := by decide +kernel
theorem dX5_duel_86 : decode cX5_duel 86 = .ok (.iload_n 3, 1) := by decide +kernel
theorem dX5_duel_87 : decode cX5_duel 87 = .ok (.iconst 2, 1) := by decide +kernel
theorem dX5_duel_88 : decode cX5_duel 88 = .ok (.irem, 1) := by decide +kernel
theorem dX5_duel_89 : decode cX5_duel 89 = .ok (.ifCond .ne 7, 3) := by decide +kernel
theorem dX5_duel_92 : decode cX5_duel 92 = .ok (.iconst 3, 1) := by decide +kernel
theorem dX5_duel_93 : decode cX5_duel 93 = .ok (.goto 4, 3) := by decide +kernel
theorem dX5_duel_96 : decode cX5_duel 96 = .ok (.iconst 2, 1) := by decide +kernel
theorem dX5_duel_97 : decode cX5_duel 97 = .ok (.istore 4, 2) := by decide +kernel
theorem dX5_duel_99 : decode cX5_duel 99 = .ok (.iload_n 2, 1) := by decide +kernel
theorem dX5_duel_100 : decode cX5_duel 100 = .ok (.iload 4, 2) := by decide +kernel
theorem dX5_duel_102 : decode cX5_duel 102 = .ok (.idiv, 1) := by decide +kernel
theorem dX5_duel_103 : decode cX5_duel 103 = .ok (.istore_n 2, 1) := by decide +kernel
theorem dX5_duel_104 : decode cX5_duel 104 = .ok (.iconst 0, 1) := by decide +kernel
theorem dX5_duel_105 : decode cX5_duel 105 = .ok (.istore 5, 2) := by decide +kernel
theorem dX5_duel_107 : decode cX5_duel 107 = .ok (.iload 5, 2) := by decide +kernel
theorem dX5_duel_109 : decode cX5_duel 109 = .ok (.iload_n 2, 1) := by decide +kernel
theorem dX5_duel_110 : decode cX5_duel 110 = .ok (.if_icmp .ge 88, 3) := by decide +kernel
theorem dX5_duel_113 : decode cX5_duel 113 = .ok (.aload_n 0, 1) := by decide +kernel
theorem dX5_duel_114 : decode cX5_duel 114 = .ok (.getfield 54, 3) := by decide +kernel
theorem dX5_duel_117 : decode cX5_duel 117 = .ok (.iload 5, 2) := by decide +kernel
theorem dX5_duel_119 : decode cX5_duel 119 = .ok (.iaload, 1) := by decide +kernel
theorem dX5_duel_120 : decode cX5_duel 120 = .ok (.istore 6, 2) := by decide +kernel
theorem dX5_duel_122 : decode cX5_duel 122 = .ok (.iconst 1, 1) := by decide +kernel
theorem dX5_duel_123 : decode cX5_duel 123 = .ok (.istore 7, 2) := by decide +kernel
theorem dX5_duel_125 : decode cX5_duel 125 = .ok (.iload 7, 2) := by decide +kernel
theorem dX5_duel_127 : decode cX5_duel 127 = .ok (.iload 4, 2) := by decide +kernel
theorem dX5_duel_129 : decode cX5_duel 129 = .ok (.if_icmp .ge 54, 3) := by decide +kernel
theorem dX5_duel_132 : decode cX5_duel 132 = .ok (.iload_n 3, 1) := by decide +kernel
theorem dX5_duel_133 : decode cX5_duel 133 = .ok (.iconst 2, 1) := by decide +kernel
theorem dX5_duel_134 : decode cX5_duel 134 = .ok (.irem, 1) := by decide +kernel
theorem dX5_duel_135 : decode cX5_duel 135 = .ok (.ifCond .ne 23, 3) := by decide +kernel
theorem dX5_duel_138 : decode cX5_duel 138 = .ok (.iload 6, 2) := by decide +kernel
theorem dX5_duel_140 : decode cX5_duel 140 = .ok (.aload_n 0, 1) := by decide +kernel
theorem dX5_duel_141 : decode cX5_duel 141 = .ok (.getfield 54, 3) := by decide +kernel
theorem dX5_duel_144 : decode cX5_duel 144 = .ok (.iload 5, 2) := by decide +kernel
theorem dX5_duel_146 : decode cX5_duel 146 = .ok (.iload 7, 2) := by decide +kernel
theorem dX5_duel_148 : decode cX5_duel 148 = .ok (.iload_n 2, 1) := by decide +kernel
theorem dX5_duel_149 : decode cX5_duel 149 = .ok (.imul, 1) := by decide +kernel
theorem dX5_duel_150 : decode cX5_duel 150 = .ok (.iadd, 1) := by decide +kernel
theorem dX5_duel_151 : decode cX5_duel 151 = .ok (.iaload, 1) := by decide +kernel
theorem dX5_duel_152 : decode cX5_duel 152 = .ok (.invokestatic 106, 3) := by decide +kernel
theorem dX5_duel_155 : decode cX5_duel 155 = .ok (.goto 20, 3) := by decide +kernel
theorem dX5_duel_158 : decode cX5_duel 158 = .ok (.iload 6, 2) := by decide +kernel
theorem dX5_duel_160 : decode cX5_duel 160 = .ok (.aload_n 0, 1) := by decide +kernel
theorem dX5_duel_161 : decode cX5_duel 161 = .ok (.getfield 54, 3) := by decide +kernel
theorem dX5_duel_164 : decode cX5_duel 164 = .ok (.iload 5, 2) := by decide +kernel
theorem dX5_duel_166 : decode cX5_duel 166 = .ok (.iload 7, 2) := by decide +kernel
theorem dX5_duel_168 : decode cX5_duel 168 = .ok (.iload_n 2, 1) := by decide +kernel
theorem dX5_duel_169 : decode cX5_duel 169 = .ok (.imul, 1) := by decide +kernel
theorem dX5_duel_170 : decode cX5_duel 170 = .ok (.iadd, 1) := by decide +kernel
theorem dX5_duel_171 : decode cX5_duel 171 = .ok (.iaload, 1) := by decide +kernel
theorem dX5_duel_172 : decode cX5_duel 172 = .ok (.invokestatic 103, 3) := by decide +kernel
theorem dX5_duel_175 : decode cX5_duel 175 = .ok (.istore 6, 2) := by decide +kernel
theorem dX5_duel_177 : decode cX5_duel 177 = .ok (.iinc 7 1, 3) := by decide +kernel
theorem dX5_duel_180 : decode cX5_duel 180 = .ok (.goto (-55), 3) := by decide +kernel
theorem dX5_duel_183 : decode cX5_duel 183 = .ok (.aload_n 0, 1) := by decide +kernel
theorem dX5_duel_184 : decode cX5_duel 184 = .ok (.getfield 54, 3) := by decide +kernel
theorem dX5_duel_187 : decode cX5_duel 187 = .ok (.iload 5, 2) := by decide +kernel
theorem dX5_duel_189 : decode cX5_duel 189 = .ok (.iload 6, 2) := by decide +kernel
theorem dX5_duel_191 : decode cX5_duel 191 = .ok (.iastore, 1) := by decide +kernel
theorem dX5_duel_192 : decode cX5_duel 192 = .ok (.iinc 5 1, 3) := by decide +kernel
theorem dX5_duel_195 : decode cX5_duel 195 = .ok (.goto (-88), 3) := by decide +kernel
theorem dX5_duel_198 : decode cX5_duel 198 = .ok (.iinc 3 (-1), 3) := by decide +kernel
theorem dX5_duel_201 : decode cX5_duel 201 = .ok (.goto (-119), 3) := by decide +kernel
theorem dX5_duel_204 : decode cX5_duel 204 = .ok (.aload_n 0, 1) := by decide +kernel
theorem dX5_duel_205 : decode cX5_duel 205 = .ok (.getfield 54, 3) := by decide +kernel
theorem dX5_duel_208 : decode cX5_duel 208 = .ok (.iconst 0, 1) := by decide +kernel
theorem dX5_duel_209 : decode cX5_duel 209 = .ok (.iaload, 1) := by decide +kernel
theorem dX5_duel_210 : decode cX5_duel 210 = .ok (.ireturn, 1) := by decide +kernel
theorem dX5_tells_0 : decode cX5_tells 0 = .ok (.lload_n 1, 1) := by decide +kernel
theorem dX5_tells_1 : decode cX5_tells 1 = .ok (.lstore 5, 2) := by decide +kernel
theorem dX5_tells_3 : decode cX5_tells 3 = .ok (.lload_n 3, 1) := by decide +kernel
theorem dX5_tells_4 : decode cX5_tells 4 = .ok (.lstore 7, 2) := by decide +kernel
theorem dX5_tells_6 : decode cX5_tells 6 = .ok (.lload 7, 2) := by decide +kernel
theorem dX5_tells_8 : decode cX5_tells 8 = .ok (.lconst 0, 1) := by decide +kernel
theorem dX5_tells_9 : decode cX5_tells 9 = .ok (.lcmp, 1) := by decide +kernel
theorem dX5_tells_10 : decode cX5_tells 10 = .ok (.ifCond .eq 21, 3) := by decide +kernel
theorem dX5_tells_13 : decode cX5_tells 13 = .ok (.lload 5, 2) := by decide +kernel
theorem dX5_tells_15 : decode cX5_tells 15 = .ok (.lload 7, 2) := by decide +kernel
theorem dX5_tells_17 : decode cX5_tells 17 = .ok (.lrem, 1) := by decide +kernel
theorem dX5_tells_18 : decode cX5_tells 18 = .ok (.lstore 9, 2) := by decide +kernel
theorem dX5_tells_20 : decode cX5_tells 20 = .ok (.lload 7, 2) := by decide +kernel
theorem dX5_tells_22 : decode cX5_tells 22 = .ok (.lstore 5, 2) := by decide +kernel
theorem dX5_tells_24 : decode cX5_tells 24 = .ok (.lload 9, 2) := by decide +kernel
theorem dX5_tells_26 : decode cX5_tells 26 = .ok (.lstore 7, 2) := by decide +kernel
theorem dX5_tells_28 : decode cX5_tells 28 = .ok (.goto (-22), 3) := by decide +kernel
theorem dX5_tells_31 : decode cX5_tells 31 = .ok (.aload_n 0, 1) := by decide +kernel
theorem dX5_tells_32 : decode cX5_tells 32 = .ok (.lload_n 1, 1) := by decide +kernel
theorem dX5_tells_33 : decode cX5_tells 33 = .ok (.lload 5, 2) := by decide +kernel
theorem dX5_tells_35 : decode cX5_tells 35 = .ok (.ldiv, 1) := by decide +kernel
theorem dX5_tells_36 : decode cX5_tells 36 = .ok (.putfield 193, 3) := by decide +kernel
theorem dX5_tells_39 : decode cX5_tells 39 = .ok (.aload_n 0, 1) := by decide +kernel
theorem dX5_tells_40 : decode cX5_tells 40 = .ok (.lload_n 3, 1) := by decide +kernel
theorem dX5_tells_41 : decode cX5_tells 41 = .ok (.lload 5, 2) := by decide +kernel
theorem dX5_tells_43 : decode cX5_tells 43 = .ok (.ldiv, 1) := by decide +kernel
theorem dX5_tells_44 : decode cX5_tells 44 = .ok (.putfield 47, 3) := by decide +kernel
theorem dX5_tells_47 : decode cX5_tells 47 = .ok (.return_, 1) := by decide +kernel
theorem dX5_weighs_0 : decode cX5_weighs 0 = .ok (.lconst 0, 1) := by decide +kernel
theorem dX5_weighs_1 : decode cX5_weighs 1 = .ok (.lstore_n 3, 1) := by decide +kernel
theorem dX5_weighs_2 : decode cX5_weighs 2 = .ok (.iconst 0, 1) := by decide +kernel
theorem dX5_weighs_3 : decode cX5_weighs 3 = .ok (.istore 5, 2) := by decide +kernel
theorem dX5_weighs_5 : decode cX5_weighs 5 = .ok (.iload 5, 2) := by decide +kernel
theorem dX5_weighs_7 : decode cX5_weighs 7 = .ok (.bipush 64, 2) := by decide +kernel
theorem dX5_weighs_9 : decode cX5_weighs 9 = .ok (.if_icmp .ge 107, 3) := by decide +kernel
theorem dX5_weighs_12 : decode cX5_weighs 12 = .ok (.aload_n 0, 1) := by decide +kernel
theorem dX5_weighs_13 : decode cX5_weighs 13 = .ok (.invokevirtual 164, 3) := by decide +kernel
theorem dX5_weighs_16 : decode cX5_weighs 16 = .ok (.lconst 1, 1) := by decide +kernel
theorem dX5_weighs_17 : decode cX5_weighs 17 = .ok (.lstore 6, 2) := by decide +kernel
theorem dX5_weighs_19 : decode cX5_weighs 19 = .ok (.iconst 0, 1) := by decide +kernel
theorem dX5_weighs_20 : decode cX5_weighs 20 = .ok (.istore 8, 2) := by decide +kernel
theorem dX5_weighs_22 : decode cX5_weighs 22 = .ok (.iconst 0, 1) := by decide +kernel
theorem dX5_weighs_23 : decode cX5_weighs 23 = .ok (.istore 9, 2) := by decide +kernel
theorem dX5_weighs_25 : decode cX5_weighs 25 = .ok (.iload 9, 2) := by decide +kernel
theorem dX5_weighs_27 : decode cX5_weighs 27 = .ok (.bipush 6, 2) := by decide +kernel
theorem dX5_weighs_29 : decode cX5_weighs 29 = .ok (.if_icmp .ge 53, 3) := by decide +kernel
theorem dX5_weighs_32 : decode cX5_weighs 32 = .ok (.lload 6, 2) := by decide +kernel
theorem dX5_weighs_34 : decode cX5_weighs 34 = .ok (.iload 5, 2) := by decide +kernel
theorem dX5_weighs_36 : decode cX5_weighs 36 = .ok (.iload 9, 2) := by decide +kernel
theorem dX5_weighs_38 : decode cX5_weighs 38 = .ok (.invokestatic 109, 3) := by decide +kernel
theorem dX5_weighs_41 : decode cX5_weighs 41 = .ok (.ifCond .eq 8, 3) := by decide +kernel
theorem dX5_weighs_44 : decode cX5_weighs 44 = .ok (.iload_n 2, 1) := by decide +kernel
theorem dX5_weighs_45 : decode cX5_weighs 45 = .ok (.i2l, 1) := by decide +kernel
theorem dX5_weighs_46 : decode cX5_weighs 46 = .ok (.goto 8, 3) := by decide +kernel
theorem dX5_weighs_49 : decode cX5_weighs 49 = .ok (.bipush 12, 2) := by decide +kernel
theorem dX5_weighs_51 : decode cX5_weighs 51 = .ok (.iload_n 2, 1) := by decide +kernel
theorem dX5_weighs_52 : decode cX5_weighs 52 = .ok (.isub, 1) := by decide +kernel
theorem dX5_weighs_53 : decode cX5_weighs 53 = .ok (.i2l, 1) := by decide +kernel
theorem dX5_weighs_54 : decode cX5_weighs 54 = .ok (.lmul, 1) := by decide +kernel
theorem dX5_weighs_55 : decode cX5_weighs 55 = .ok (.lstore 6, 2) := by decide +kernel
theorem dX5_weighs_57 : decode cX5_weighs 57 = .ok (.iload 8, 2) := by decide +kernel
theorem dX5_weighs_59 : decode cX5_weighs 59 = .ok (.aload_n 0, 1) := by decide +kernel
theorem dX5_weighs_60 : decode cX5_weighs 60 = .ok (.sipush 984, 3) := by decide +kernel
theorem dX5_weighs_63 : decode cX5_weighs 63 = .ok (.iload 5, 2) := by decide +kernel
theorem dX5_weighs_65 : decode cX5_weighs 65 = .ok (.iload 9, 2) := by decide +kernel
theorem dX5_weighs_67 : decode cX5_weighs 67 = .ok (.invokestatic 109, 3) := by decide +kernel
theorem dX5_weighs_70 : decode cX5_weighs 70 = .ok (.invokevirtual 156, 3) := by decide +kernel
theorem dX5_weighs_73 : decode cX5_weighs 73 = .ok (.iadd, 1) := by decide +kernel
theorem dX5_weighs_74 : decode cX5_weighs 74 = .ok (.istore 8, 2) := by decide +kernel
theorem dX5_weighs_76 : decode cX5_weighs 76 = .ok (.iinc 9 1, 3) := by decide +kernel
theorem dX5_weighs_79 : decode cX5_weighs 79 = .ok (.goto (-54), 3) := by decide +kernel
theorem dX5_weighs_82 : decode cX5_weighs 82 = .ok (.lload_n 3, 1) := by decide +kernel
theorem dX5_weighs_83 : decode cX5_weighs 83 = .ok (.iload_n 1, 1) := by decide +kernel
theorem dX5_weighs_84 : decode cX5_weighs 84 = .ok (.ifCond .ge 12, 3) := by decide +kernel
theorem dX5_weighs_87 : decode cX5_weighs 87 = .ok (.lload 6, 2) := by decide +kernel
theorem dX5_weighs_89 : decode cX5_weighs 89 = .ok (.iload 8, 2) := by decide +kernel
theorem dX5_weighs_91 : decode cX5_weighs 91 = .ok (.i2l, 1) := by decide +kernel
theorem dX5_weighs_92 : decode cX5_weighs 92 = .ok (.lmul, 1) := by decide +kernel
theorem dX5_weighs_93 : decode cX5_weighs 93 = .ok (.goto 15, 3) := by decide +kernel
theorem dX5_weighs_96 : decode cX5_weighs 96 = .ok (.iload 8, 2) := by decide +kernel
theorem dX5_weighs_98 : decode cX5_weighs 98 = .ok (.iload_n 1, 1) := by decide +kernel
theorem dX5_weighs_99 : decode cX5_weighs 99 = .ok (.if_icmp .lt 8, 3) := by decide +kernel
theorem dX5_weighs_102 : decode cX5_weighs 102 = .ok (.lload 6, 2) := by decide +kernel
theorem dX5_weighs_104 : decode cX5_weighs 104 = .ok (.goto 4, 3) := by decide +kernel
theorem dX5_weighs_107 : decode cX5_weighs 107 = .ok (.lconst 0, 1) := by decide +kernel
theorem dX5_weighs_108 : decode cX5_weighs 108 = .ok (.ladd, 1) := by decide +kernel
theorem dX5_weighs_109 : decode cX5_weighs 109 = .ok (.lstore_n 3, 1) := by decide +kernel
theorem dX5_weighs_110 : decode cX5_weighs 110 = .ok (.iinc 5 1, 3) := by decide +kernel
theorem dX5_weighs_113 : decode cX5_weighs 113 = .ok (.goto (-108), 3) := by decide +kernel
theorem dX5_weighs_116 : decode cX5_weighs 116 = .ok (.lload_n 3, 1) := by decide +kernel
theorem dX5_weighs_117 : decode cX5_weighs 117 = .ok (.lreturn, 1) := by decide +kernel
theorem dX5_odds_0 : decode cX5_odds 0 = .ok (.iload_n 1, 1) := by decide +kernel
theorem dX5_odds_1 : decode cX5_odds 1 = .ok (.i2l, 1) := by decide +kernel
theorem dX5_odds_2 : decode cX5_odds 2 = .ok (.lconst 0, 1) := by decide +kernel
theorem dX5_odds_3 : decode cX5_odds 3 = .ok (.ldc2_w 174, 3) := by decide +kernel
theorem dX5_odds_6 : decode cX5_odds 6 = .ok (.invokestatic 63, 3) := by decide +kernel
theorem dX5_odds_9 : decode cX5_odds 9 = .ok (.ifCond .eq 15, 3) := by decide +kernel
theorem dX5_odds_12 : decode cX5_odds 12 = .ok (.iload_n 2, 1) := by decide +kernel
theorem dX5_odds_13 : decode cX5_odds 13 = .ok (.i2l, 1) := by decide +kernel
theorem dX5_odds_14 : decode cX5_odds 14 = .ok (.lconst 0, 1) := by decide +kernel
theorem dX5_odds_15 : decode cX5_odds 15 = .ok (.ldc2_w 196, 3) := by decide +kernel
theorem dX5_odds_18 : decode cX5_odds 18 = .ok (.invokestatic 63, 3) := by decide +kernel
theorem dX5_odds_21 : decode cX5_odds 21 = .ok (.ifCond .ne 5, 3) := by decide +kernel
theorem dX5_odds_24 : decode cX5_odds 24 = .ok (.iconst (-1), 1) := by decide +kernel
theorem dX5_odds_25 : decode cX5_odds 25 = .ok (.ireturn, 1) := by decide +kernel
theorem dX5_odds_26 : decode cX5_odds 26 = .ok (.aload_n 0, 1) := by decide +kernel
theorem dX5_odds_27 : decode cX5_odds 27 = .ok (.getfield 97, 3) := by decide +kernel
theorem dX5_odds_30 : decode cX5_odds 30 = .ok (.ifCond .ne 6, 3) := by decide +kernel
theorem dX5_odds_33 : decode cX5_odds 33 = .ok (.bipush (-4), 2) := by decide +kernel
theorem dX5_odds_35 : decode cX5_odds 35 = .ok (.ireturn, 1) := by decide +kernel
theorem dX5_odds_36 : decode cX5_odds 36 = .ok (.aload_n 0, 1) := by decide +kernel
theorem dX5_odds_37 : decode cX5_odds 37 = .ok (.aload_n 0, 1) := by decide +kernel
theorem dX5_odds_38 : decode cX5_odds 38 = .ok (.iload_n 1, 1) := by decide +kernel
theorem dX5_odds_39 : decode cX5_odds 39 = .ok (.iload_n 2, 1) := by decide +kernel
theorem dX5_odds_40 : decode cX5_odds 40 = .ok (.invokevirtual 198, 3) := by decide +kernel
theorem dX5_odds_43 : decode cX5_odds 43 = .ok (.ldc2_w 202, 3) := by decide +kernel
theorem dX5_odds_46 : decode cX5_odds 46 = .ok (.invokevirtual 204, 3) := by decide +kernel
theorem dX5_odds_49 : decode cX5_odds 49 = .ok (.iconst 1, 1) := by decide +kernel
theorem dX5_odds_50 : decode cX5_odds 50 = .ok (.ireturn, 1) := by decide +kernel
theorem dX5_mid_0 : decode cX5_mid 0 = .ok (.iload_n 1, 1) := by decide +kernel
theorem dX5_mid_1 : decode cX5_mid 1 = .ok (.i2l, 1) := by decide +kernel
theorem dX5_mid_2 : decode cX5_mid 2 = .ok (.lconst 0, 1) := by decide +kernel
theorem dX5_mid_3 : decode cX5_mid 3 = .ok (.ldc2_w 196, 3) := by decide +kernel
theorem dX5_mid_6 : decode cX5_mid 6 = .ok (.invokestatic 63, 3) := by decide +kernel
theorem dX5_mid_9 : decode cX5_mid 9 = .ok (.ifCond .ne 5, 3) := by decide +kernel
theorem dX5_mid_12 : decode cX5_mid 12 = .ok (.iconst (-1), 1) := by decide +kernel
theorem dX5_mid_13 : decode cX5_mid 13 = .ok (.ireturn, 1) := by decide +kernel
theorem dX5_mid_14 : decode cX5_mid 14 = .ok (.aload_n 0, 1) := by decide +kernel
theorem dX5_mid_15 : decode cX5_mid 15 = .ok (.getfield 97, 3) := by decide +kernel
theorem dX5_mid_18 : decode cX5_mid 18 = .ok (.ifCond .ne 6, 3) := by decide +kernel
theorem dX5_mid_21 : decode cX5_mid 21 = .ok (.bipush (-4), 2) := by decide +kernel
theorem dX5_mid_23 : decode cX5_mid 23 = .ok (.ireturn, 1) := by decide +kernel
theorem dX5_mid_24 : decode cX5_mid 24 = .ok (.aload_n 0, 1) := by decide +kernel
theorem dX5_mid_25 : decode cX5_mid 25 = .ok (.aload_n 0, 1) := by decide +kernel
theorem dX5_mid_26 : decode cX5_mid 26 = .ok (.iconst (-1), 1) := by decide +kernel
theorem dX5_mid_27 : decode cX5_mid 27 = .ok (.iload_n 1, 1) := by decide +kernel
theorem dX5_mid_28 : decode cX5_mid 28 = .ok (.invokevirtual 198, 3) := by decide +kernel
theorem dX5_mid_31 : decode cX5_mid 31 = .ok (.ldc2_w 202, 3) := by decide +kernel
theorem dX5_mid_34 : decode cX5_mid 34 = .ok (.invokevirtual 204, 3) := by decide +kernel
theorem dX5_mid_37 : decode cX5_mid 37 = .ok (.iconst 1, 1) := by decide +kernel
theorem dX5_mid_38 : decode cX5_mid 38 = .ok (.ireturn, 1) := by decide +kernel
theorem dX5_lots_0 : decode cX5_lots 0 = .ok (.iload_n 1, 1) := by decide +kernel
theorem dX5_lots_1 : decode cX5_lots 1 = .ok (.i2l, 1) := by decide +kernel
theorem dX5_lots_2 : decode cX5_lots 2 = .ok (.lconst 1, 1) := by decide +kernel
theorem dX5_lots_3 : decode cX5_lots 3 = .ok (.ldc2_w 170, 3) := by decide +kernel
theorem dX5_lots_6 : decode cX5_lots 6 = .ok (.invokestatic 63, 3) := by decide +kernel
theorem dX5_lots_9 : decode cX5_lots 9 = .ok (.ifCond .eq 15, 3) := by decide +kernel
theorem dX5_lots_12 : decode cX5_lots 12 = .ok (.iload_n 2, 1) := by decide +kernel
theorem dX5_lots_13 : decode cX5_lots 13 = .ok (.i2l, 1) := by decide +kernel
theorem dX5_lots_14 : decode cX5_lots 14 = .ok (.lconst 1, 1) := by decide +kernel
theorem dX5_lots_15 : decode cX5_lots 15 = .ok (.ldc2_w 208, 3) := by decide +kernel
theorem dX5_lots_18 : decode cX5_lots 18 = .ok (.invokestatic 63, 3) := by decide +kernel
theorem dX5_lots_21 : decode cX5_lots 21 = .ok (.ifCond .ne 5, 3) := by decide +kernel
theorem dX5_lots_24 : decode cX5_lots 24 = .ok (.iconst (-1), 1) := by decide +kernel
theorem dX5_lots_25 : decode cX5_lots 25 = .ok (.ireturn, 1) := by decide +kernel
theorem dX5_lots_26 : decode cX5_lots 26 = .ok (.aload_n 0, 1) := by decide +kernel
theorem dX5_lots_27 : decode cX5_lots 27 = .ok (.getfield 97, 3) := by decide +kernel
theorem dX5_lots_30 : decode cX5_lots 30 = .ok (.ifCond .ne 6, 3) := by decide +kernel
theorem dX5_lots_33 : decode cX5_lots 33 = .ok (.bipush (-4), 2) := by decide +kernel
theorem dX5_lots_35 : decode cX5_lots 35 = .ok (.ireturn, 1) := by decide +kernel
theorem dX5_lots_36 : decode cX5_lots 36 = .ok (.aload_n 0, 1) := by decide +kernel
theorem dX5_lots_37 : decode cX5_lots 37 = .ok (.getfield 100, 3) := by decide +kernel
theorem dX5_lots_40 : decode cX5_lots 40 = .ok (.iload_n 1, 1) := by decide +kernel
theorem dX5_lots_41 : decode cX5_lots 41 = .ok (.iadd, 1) := by decide +kernel
theorem dX5_lots_42 : decode cX5_lots 42 = .ok (.bipush 40, 2) := by decide +kernel
theorem dX5_lots_44 : decode cX5_lots 44 = .ok (.if_icmp .le 6, 3) := by decide +kernel
theorem dX5_lots_47 : decode cX5_lots 47 = .ok (.bipush (-2), 2) := by decide +kernel
theorem dX5_lots_49 : decode cX5_lots 49 = .ok (.ireturn, 1) := by decide +kernel
theorem dX5_lots_50 : decode cX5_lots 50 = .ok (.iload_n 2, 1) := by decide +kernel
theorem dX5_lots_51 : decode cX5_lots 51 = .ok (.i2l, 1) := by decide +kernel
theorem dX5_lots_52 : decode cX5_lots 52 = .ok (.lstore_n 3, 1) := by decide +kernel
theorem dX5_lots_53 : decode cX5_lots 53 = .ok (.iconst 0, 1) := by decide +kernel
theorem dX5_lots_54 : decode cX5_lots 54 = .ok (.istore 5, 2) := by decide +kernel
theorem dX5_lots_56 : decode cX5_lots 56 = .ok (.iload 5, 2) := by decide +kernel
theorem dX5_lots_58 : decode cX5_lots 58 = .ok (.iload_n 1, 1) := by decide +kernel
theorem dX5_lots_59 : decode cX5_lots 59 = .ok (.if_icmp .ge 91, 3) := by decide +kernel
theorem dX5_lots_62 : decode cX5_lots 62 = .ok (.lload_n 3, 1) := by decide +kernel
theorem dX5_lots_63 : decode cX5_lots 63 = .ok (.ldc2_w 210, 3) := by decide +kernel
theorem dX5_lots_66 : decode cX5_lots 66 = .ok (.lmul, 1) := by decide +kernel
theorem dX5_lots_67 : decode cX5_lots 67 = .ok (.ldc2_w 212, 3) := by decide +kernel
theorem dX5_lots_70 : decode cX5_lots 70 = .ok (.lrem, 1) := by decide +kernel
theorem dX5_lots_71 : decode cX5_lots 71 = .ok (.lstore_n 3, 1) := by decide +kernel
theorem dX5_lots_72 : decode cX5_lots 72 = .ok (.aload_n 0, 1) := by decide +kernel
theorem dX5_lots_73 : decode cX5_lots 73 = .ok (.invokevirtual 153, 3) := by decide +kernel
theorem dX5_lots_76 : decode cX5_lots 76 = .ok (.istore 6, 2) := by decide +kernel
theorem dX5_lots_78 : decode cX5_lots 78 = .ok (.lload_n 3, 1) := by decide +kernel
theorem dX5_lots_79 : decode cX5_lots 79 = .ok (.ldc2_w 188, 3) := by decide +kernel
theorem dX5_lots_82 : decode cX5_lots 82 = .ok (.lrem, 1) := by decide +kernel
theorem dX5_lots_83 : decode cX5_lots 83 = .ok (.lconst 0, 1) := by decide +kernel
theorem dX5_lots_84 : decode cX5_lots 84 = .ok (.lcmp, 1) := by decide +kernel
theorem dX5_lots_85 : decode cX5_lots 85 = .ok (.ifCond .ne 16, 3) := by decide +kernel
theorem dX5_lots_88 : decode cX5_lots 88 = .ok (.aload_n 0, 1) := by decide +kernel
theorem dX5_lots_89 : decode cX5_lots 89 = .ok (.getfield 41, 3) := by decide +kernel
theorem dX5_lots_92 : decode cX5_lots 92 = .ok (.iload 6, 2) := by decide +kernel
theorem dX5_lots_94 : decode cX5_lots 94 = .ok (.iconst 2, 1) := by decide +kernel
theorem dX5_lots_95 : decode cX5_lots 95 = .ok (.iadd, 1) := by decide +kernel
theorem dX5_lots_96 : decode cX5_lots 96 = .ok (.iconst 0, 1) := by decide +kernel
theorem dX5_lots_97 : decode cX5_lots 97 = .ok (.iastore, 1) := by decide +kernel
theorem dX5_lots_98 : decode cX5_lots 98 = .ok (.goto 46, 3) := by decide +kernel
theorem dX5_lots_101 : decode cX5_lots 101 = .ok (.lload_n 3, 1) := by decide +kernel
theorem dX5_lots_102 : decode cX5_lots 102 = .ok (.ldc2_w 188, 3) := by decide +kernel
theorem dX5_lots_105 : decode cX5_lots 105 = .ok (.lrem, 1) := by decide +kernel
theorem dX5_lots_106 : decode cX5_lots 106 = .ok (.lconst 1, 1) := by decide +kernel
theorem dX5_lots_107 : decode cX5_lots 107 = .ok (.lcmp, 1) := by decide +kernel
theorem dX5_lots_108 : decode cX5_lots 108 = .ok (.ifCond .ne 25, 3) := by decide +kernel
theorem dX5_lots_111 : decode cX5_lots 111 = .ok (.aload_n 0, 1) := by decide +kernel
theorem dX5_lots_112 : decode cX5_lots 112 = .ok (.getfield 41, 3) := by decide +kernel
theorem dX5_lots_115 : decode cX5_lots 115 = .ok (.iload 6, 2) := by decide +kernel
theorem dX5_lots_117 : decode cX5_lots 117 = .ok (.iconst 1, 1) := by decide +kernel
theorem dX5_lots_118 : decode cX5_lots 118 = .ok (.iadd, 1) := by decide +kernel
theorem dX5_lots_119 : decode cX5_lots 119 = .ok (.lload_n 3, 1) := by decide +kernel
theorem dX5_lots_120 : decode cX5_lots 120 = .ok (.ldc2_w 172, 3) := by decide +kernel
theorem dX5_lots_123 : decode cX5_lots 123 = .ok (.ldiv, 1) := by decide +kernel
theorem dX5_lots_124 : decode cX5_lots 124 = .ok (.ldc2_w 61, 3) := by decide +kernel
theorem dX5_lots_127 : decode cX5_lots 127 = .ok (.lrem, 1) := by decide +kernel
theorem dX5_lots_128 : decode cX5_lots 128 = .ok (.l2i, 1) := by decide +kernel
theorem dX5_lots_129 : decode cX5_lots 129 = .ok (.iastore, 1) := by decide +kernel
theorem dX5_lots_130 : decode cX5_lots 130 = .ok (.goto 14, 3) := by decide +kernel
theorem dX5_lots_133 : decode cX5_lots 133 = .ok (.aload_n 0, 1) := by decide +kernel
theorem dX5_lots_134 : decode cX5_lots 134 = .ok (.aload_n 0, 1) := by decide +kernel
theorem dX5_lots_135 : decode cX5_lots 135 = .ok (.iload 6, 2) := by decide +kernel
theorem dX5_lots_137 : decode cX5_lots 137 = .ok (.iconst 0, 1) := by decide +kernel
theorem dX5_lots_138 : decode cX5_lots 138 = .ok (.invokevirtual 156, 3) := by decide +kernel
theorem dX5_lots_141 : decode cX5_lots 141 = .ok (.putfield 147, 3) := by decide +kernel
theorem dX5_lots_144 : decode cX5_lots 144 = .ok (.iinc 5 1, 3) := by decide +kernel
theorem dX5_lots_147 : decode cX5_lots 147 = .ok (.goto (-91), 3) := by decide +kernel
theorem dX5_lots_150 : decode cX5_lots 150 = .ok (.aload_n 0, 1) := by decide +kernel
theorem dX5_lots_151 : decode cX5_lots 151 = .ok (.getfield 41, 3) := by decide +kernel
theorem dX5_lots_154 : decode cX5_lots 154 = .ok (.aload_n 0, 1) := by decide +kernel
theorem dX5_lots_155 : decode cX5_lots 155 = .ok (.invokevirtual 123, 3) := by decide +kernel
theorem dX5_lots_158 : decode cX5_lots 158 = .ok (.iconst 3, 1) := by decide +kernel
theorem dX5_lots_159 : decode cX5_lots 159 = .ok (.iadd, 1) := by decide +kernel
theorem dX5_lots_160 : decode cX5_lots 160 = .ok (.iaload, 1) := by decide +kernel
theorem dX5_lots_161 : decode cX5_lots 161 = .ok (.ireturn, 1) := by decide +kernel
theorem dX5_asked_0 : decode cX5_asked 0 = .ok (.aload_n 0, 1) := by decide +kernel
theorem dX5_asked_1 : decode cX5_asked 1 = .ok (.getfield 75, 3) := by decide +kernel
theorem dX5_asked_4 : decode cX5_asked 4 = .ok (.ireturn, 1) := by decide +kernel
theorem dX5_upper_0 : decode cX5_upper 0 = .ok (.aload_n 0, 1) := by decide +kernel
theorem dX5_upper_1 : decode cX5_upper 1 = .ok (.getfield 193, 3) := by decide +kernel
theorem dX5_upper_4 : decode cX5_upper 4 = .ok (.lreturn, 1) := by decide +kernel
theorem dX5_lower_0 : decode cX5_lower 0 = .ok (.aload_n 0, 1) := by decide +kernel
theorem dX5_lower_1 : decode cX5_lower 1 = .ok (.getfield 47, 3) := by decide +kernel
theorem dX5_lower_4 : decode cX5_lower 4 = .ok (.lreturn, 1) := by decide +kernel
theorem dX5_manyOf_0 : decode cX5_manyOf 0 = .ok (.iconst 0, 1) := by decide +kernel
theorem dX5_manyOf_1 : decode cX5_manyOf 1 = .ok (.istore_n 2, 1) := by decide +kernel
theorem dX5_manyOf_2 : decode cX5_manyOf 2 = .ok (.iconst 0, 1) := by decide +kernel
theorem dX5_manyOf_3 : decode cX5_manyOf 3 = .ok (.istore_n 3, 1) := by decide +kernel
theorem dX5_manyOf_4 : decode cX5_manyOf 4 = .ok (.iload_n 3, 1) := by decide +kernel
theorem dX5_manyOf_5 : decode cX5_manyOf 5 = .ok (.bipush 9, 2) := by decide +kernel
theorem dX5_manyOf_7 : decode cX5_manyOf 7 = .ok (.if_icmp .ge 157, 3) := by decide +kernel
theorem dX5_manyOf_10 : decode cX5_manyOf 10 = .ok (.iload_n 2, 1) := by decide +kernel
theorem dX5_manyOf_11 : decode cX5_manyOf 11 = .ok (.iload_n 1, 1) := by decide +kernel
theorem dX5_manyOf_12 : decode cX5_manyOf 12 = .ok (.ifCond .ne 25, 3) := by decide +kernel
theorem dX5_manyOf_15 : decode cX5_manyOf 15 = .ok (.iload_n 3, 1) := by decide +kernel
theorem dX5_manyOf_16 : decode cX5_manyOf 16 = .ok (.bipush 6, 2) := by decide +kernel
theorem dX5_manyOf_18 : decode cX5_manyOf 18 = .ok (.if_icmp .ge 19, 3) := by decide +kernel
theorem dX5_manyOf_21 : decode cX5_manyOf 21 = .ok (.aload_n 0, 1) := by decide +kernel
theorem dX5_manyOf_22 : decode cX5_manyOf 22 = .ok (.getfield 7, 3) := by decide +kernel
theorem dX5_manyOf_25 : decode cX5_manyOf 25 = .ok (.iload_n 3, 1) := by decide +kernel
theorem dX5_manyOf_26 : decode cX5_manyOf 26 = .ok (.bipush 6, 2) := by decide +kernel
theorem dX5_manyOf_28 : decode cX5_manyOf 28 = .ok (.irem, 1) := by decide +kernel
theorem dX5_manyOf_29 : decode cX5_manyOf 29 = .ok (.iaload, 1) := by decide +kernel
theorem dX5_manyOf_30 : decode cX5_manyOf 30 = .ok (.ifCond .lt 7, 3) := by decide +kernel
theorem dX5_manyOf_33 : decode cX5_manyOf 33 = .ok (.iconst 1, 1) := by decide +kernel
theorem dX5_manyOf_34 : decode cX5_manyOf 34 = .ok (.goto 4, 3) := by decide +kernel
theorem dX5_manyOf_37 : decode cX5_manyOf 37 = .ok (.iconst 0, 1) := by decide +kernel
theorem dX5_manyOf_38 : decode cX5_manyOf 38 = .ok (.iadd, 1) := by decide +kernel
theorem dX5_manyOf_39 : decode cX5_manyOf 39 = .ok (.istore_n 2, 1) := by decide +kernel
theorem dX5_manyOf_40 : decode cX5_manyOf 40 = .ok (.iload_n 2, 1) := by decide +kernel
theorem dX5_manyOf_41 : decode cX5_manyOf 41 = .ok (.iload_n 1, 1) := by decide +kernel
theorem dX5_manyOf_42 : decode cX5_manyOf 42 = .ok (.iconst 1, 1) := by decide +kernel
theorem dX5_manyOf_43 : decode cX5_manyOf 43 = .ok (.if_icmp .ne 23, 3) := by decide +kernel
theorem dX5_manyOf_46 : decode cX5_manyOf 46 = .ok (.iload_n 3, 1) := by decide +kernel
theorem dX5_manyOf_47 : decode cX5_manyOf 47 = .ok (.iconst 4, 1) := by decide +kernel
theorem dX5_manyOf_48 : decode cX5_manyOf 48 = .ok (.if_icmp .ge 18, 3) := by decide +kernel
theorem dX5_manyOf_51 : decode cX5_manyOf 51 = .ok (.aload_n 0, 1) := by decide +kernel
theorem dX5_manyOf_52 : decode cX5_manyOf 52 = .ok (.getfield 16, 3) := by decide +kernel
theorem dX5_manyOf_55 : decode cX5_manyOf 55 = .ok (.iload_n 3, 1) := by decide +kernel
theorem dX5_manyOf_56 : decode cX5_manyOf 56 = .ok (.iconst 4, 1) := by decide +kernel
theorem dX5_manyOf_57 : decode cX5_manyOf 57 = .ok (.irem, 1) := by decide +kernel
theorem dX5_manyOf_58 : decode cX5_manyOf 58 = .ok (.iaload, 1) := by decide +kernel
theorem dX5_manyOf_59 : decode cX5_manyOf 59 = .ok (.ifCond .lt 7, 3) := by decide +kernel
theorem dX5_manyOf_62 : decode cX5_manyOf 62 = .ok (.iconst 1, 1) := by decide +kernel
theorem dX5_manyOf_63 : decode cX5_manyOf 63 = .ok (.goto 4, 3) := by decide +kernel
theorem dX5_manyOf_66 : decode cX5_manyOf 66 = .ok (.iconst 0, 1) := by decide +kernel
theorem dX5_manyOf_67 : decode cX5_manyOf 67 = .ok (.iadd, 1) := by decide +kernel
theorem dX5_manyOf_68 : decode cX5_manyOf 68 = .ok (.istore_n 2, 1) := by decide +kernel
theorem dX5_manyOf_69 : decode cX5_manyOf 69 = .ok (.iload_n 2, 1) := by decide +kernel
theorem dX5_manyOf_70 : decode cX5_manyOf 70 = .ok (.iload_n 1, 1) := by decide +kernel
theorem dX5_manyOf_71 : decode cX5_manyOf 71 = .ok (.iconst 2, 1) := by decide +kernel
theorem dX5_manyOf_72 : decode cX5_manyOf 72 = .ok (.if_icmp .ne 23, 3) := by decide +kernel
theorem dX5_manyOf_75 : decode cX5_manyOf 75 = .ok (.iload_n 3, 1) := by decide +kernel
theorem dX5_manyOf_76 : decode cX5_manyOf 76 = .ok (.iconst 3, 1) := by decide +kernel
theorem dX5_manyOf_77 : decode cX5_manyOf 77 = .ok (.if_icmp .ge 18, 3) := by decide +kernel
theorem dX5_manyOf_80 : decode cX5_manyOf 80 = .ok (.aload_n 0, 1) := by decide +kernel
theorem dX5_manyOf_81 : decode cX5_manyOf 81 = .ok (.getfield 44, 3) := by decide +kernel
theorem dX5_manyOf_84 : decode cX5_manyOf 84 = .ok (.iload_n 3, 1) := by decide +kernel
theorem dX5_manyOf_85 : decode cX5_manyOf 85 = .ok (.iconst 3, 1) := by decide +kernel
theorem dX5_manyOf_86 : decode cX5_manyOf 86 = .ok (.irem, 1) := by decide +kernel
theorem dX5_manyOf_87 : decode cX5_manyOf 87 = .ok (.iaload, 1) := by decide +kernel
theorem dX5_manyOf_88 : decode cX5_manyOf 88 = .ok (.ifCond .lt 7, 3) := by decide +kernel
theorem dX5_manyOf_91 : decode cX5_manyOf 91 = .ok (.iconst 1, 1) := by decide +kernel
theorem dX5_manyOf_92 : decode cX5_manyOf 92 = .ok (.goto 4, 3) := by decide +kernel
theorem dX5_manyOf_95 : decode cX5_manyOf 95 = .ok (.iconst 0, 1) := by decide +kernel
theorem dX5_manyOf_96 : decode cX5_manyOf 96 = .ok (.iadd, 1) := by decide +kernel
theorem dX5_manyOf_97 : decode cX5_manyOf 97 = .ok (.istore_n 2, 1) := by decide +kernel
theorem dX5_manyOf_98 : decode cX5_manyOf 98 = .ok (.iload_n 2, 1) := by decide +kernel
theorem dX5_manyOf_99 : decode cX5_manyOf 99 = .ok (.iload_n 1, 1) := by decide +kernel
theorem dX5_manyOf_100 : decode cX5_manyOf 100 = .ok (.iconst 3, 1) := by decide +kernel
theorem dX5_manyOf_101 : decode cX5_manyOf 101 = .ok (.if_icmp .ne 24, 3) := by decide +kernel
theorem dX5_manyOf_104 : decode cX5_manyOf 104 = .ok (.iload_n 3, 1) := by decide +kernel
theorem dX5_manyOf_105 : decode cX5_manyOf 105 = .ok (.aload_n 0, 1) := by decide +kernel
theorem dX5_manyOf_106 : decode cX5_manyOf 106 = .ok (.getfield 97, 3) := by decide +kernel
theorem dX5_manyOf_109 : decode cX5_manyOf 109 = .ok (.if_icmp .ge 16, 3) := by decide +kernel
theorem dX5_manyOf_112 : decode cX5_manyOf 112 = .ok (.aload_n 0, 1) := by decide +kernel
theorem dX5_manyOf_113 : decode cX5_manyOf 113 = .ok (.getfield 23, 3) := by decide +kernel
theorem dX5_manyOf_116 : decode cX5_manyOf 116 = .ok (.iload_n 3, 1) := by decide +kernel
theorem dX5_manyOf_117 : decode cX5_manyOf 117 = .ok (.iaload, 1) := by decide +kernel
theorem dX5_manyOf_118 : decode cX5_manyOf 118 = .ok (.iconst 1, 1) := by decide +kernel
theorem dX5_manyOf_119 : decode cX5_manyOf 119 = .ok (.invokestatic 140, 3) := by decide +kernel
theorem dX5_manyOf_122 : decode cX5_manyOf 122 = .ok (.ifCond .ne 29, 3) := by decide +kernel
theorem dX5_manyOf_125 : decode cX5_manyOf 125 = .ok (.iload_n 1, 1) := by decide +kernel
theorem dX5_manyOf_126 : decode cX5_manyOf 126 = .ok (.iconst 4, 1) := by decide +kernel
theorem dX5_manyOf_127 : decode cX5_manyOf 127 = .ok (.if_icmp .ne 28, 3) := by decide +kernel
theorem dX5_manyOf_130 : decode cX5_manyOf 130 = .ok (.iload_n 3, 1) := by decide +kernel
theorem dX5_manyOf_131 : decode cX5_manyOf 131 = .ok (.aload_n 0, 1) := by decide +kernel
theorem dX5_manyOf_132 : decode cX5_manyOf 132 = .ok (.getfield 97, 3) := by decide +kernel
theorem dX5_manyOf_135 : decode cX5_manyOf 135 = .ok (.if_icmp .ge 20, 3) := by decide +kernel
theorem dX5_manyOf_138 : decode cX5_manyOf 138 = .ok (.aload_n 0, 1) := by decide +kernel
theorem dX5_manyOf_139 : decode cX5_manyOf 139 = .ok (.getfield 23, 3) := by decide +kernel
theorem dX5_manyOf_142 : decode cX5_manyOf 142 = .ok (.iload_n 3, 1) := by decide +kernel
theorem dX5_manyOf_143 : decode cX5_manyOf 143 = .ok (.iaload, 1) := by decide +kernel
theorem dX5_manyOf_144 : decode cX5_manyOf 144 = .ok (.iconst 3, 1) := by decide +kernel
theorem dX5_manyOf_145 : decode cX5_manyOf 145 = .ok (.invokestatic 140, 3) := by decide +kernel
theorem dX5_manyOf_148 : decode cX5_manyOf 148 = .ok (.ifCond .eq 7, 3) := by decide +kernel
theorem dX5_manyOf_151 : decode cX5_manyOf 151 = .ok (.iconst 1, 1) := by decide +kernel
theorem dX5_manyOf_152 : decode cX5_manyOf 152 = .ok (.goto 4, 3) := by decide +kernel
theorem dX5_manyOf_155 : decode cX5_manyOf 155 = .ok (.iconst 0, 1) := by decide +kernel
theorem dX5_manyOf_156 : decode cX5_manyOf 156 = .ok (.iadd, 1) := by decide +kernel
theorem dX5_manyOf_157 : decode cX5_manyOf 157 = .ok (.istore_n 2, 1) := by decide +kernel
theorem dX5_manyOf_158 : decode cX5_manyOf 158 = .ok (.iinc 3 1, 3) := by decide +kernel
theorem dX5_manyOf_161 : decode cX5_manyOf 161 = .ok (.goto (-157), 3) := by decide +kernel
theorem dX5_manyOf_164 : decode cX5_manyOf 164 = .ok (.iload_n 2, 1) := by decide +kernel
theorem dX5_manyOf_165 : decode cX5_manyOf 165 = .ok (.ireturn, 1) := by decide +kernel
theorem dX5_count_0 : decode cX5_count 0 = .ok (.iload_n 1, 1) := by decide +kernel
theorem dX5_count_1 : decode cX5_count 1 = .ok (.i2l, 1) := by decide +kernel
theorem dX5_count_2 : decode cX5_count 2 = .ok (.lconst 0, 1) := by decide +kernel
theorem dX5_count_3 : decode cX5_count 3 = .ok (.ldc2_w 196, 3) := by decide +kernel
theorem dX5_count_6 : decode cX5_count 6 = .ok (.invokestatic 63, 3) := by decide +kernel
theorem dX5_count_9 : decode cX5_count 9 = .ok (.ifCond .ne 5, 3) := by decide +kernel
theorem dX5_count_12 : decode cX5_count 12 = .ok (.iconst (-1), 1) := by decide +kernel
theorem dX5_count_13 : decode cX5_count 13 = .ok (.ireturn, 1) := by decide +kernel
theorem dX5_count_14 : decode cX5_count 14 = .ok (.aload_n 0, 1) := by decide +kernel
theorem dX5_count_15 : decode cX5_count 15 = .ok (.invokevirtual 123, 3) := by decide +kernel
theorem dX5_count_18 : decode cX5_count 18 = .ok (.istore_n 2, 1) := by decide +kernel
theorem dX5_count_19 : decode cX5_count 19 = .ok (.iload_n 1, 1) := by decide +kernel
theorem dX5_count_20 : decode cX5_count 20 = .ok (.ifCond .ne 10, 3) := by decide +kernel
theorem dX5_count_23 : decode cX5_count 23 = .ok (.aload_n 0, 1) := by decide +kernel
theorem dX5_count_24 : decode cX5_count 24 = .ok (.getfield 97, 3) := by decide +kernel
theorem dX5_count_27 : decode cX5_count 27 = .ok (.goto 121, 3) := by decide +kernel
theorem dX5_count_30 : decode cX5_count 30 = .ok (.iload_n 1, 1) := by decide +kernel
theorem dX5_count_31 : decode cX5_count 31 = .ok (.iconst 1, 1) := by decide +kernel
theorem dX5_count_32 : decode cX5_count 32 = .ok (.if_icmp .ne 14, 3) := by decide +kernel
theorem dX5_count_35 : decode cX5_count 35 = .ok (.aload_n 0, 1) := by decide +kernel
theorem dX5_count_36 : decode cX5_count 36 = .ok (.getfield 41, 3) := by decide +kernel
theorem dX5_count_39 : decode cX5_count 39 = .ok (.iload_n 2, 1) := by decide +kernel
theorem dX5_count_40 : decode cX5_count 40 = .ok (.iconst 0, 1) := by decide +kernel
theorem dX5_count_41 : decode cX5_count 41 = .ok (.iadd, 1) := by decide +kernel
theorem dX5_count_42 : decode cX5_count 42 = .ok (.iaload, 1) := by decide +kernel
theorem dX5_count_43 : decode cX5_count 43 = .ok (.goto 105, 3) := by decide +kernel
theorem dX5_count_46 : decode cX5_count 46 = .ok (.iload_n 1, 1) := by decide +kernel
theorem dX5_count_47 : decode cX5_count 47 = .ok (.iconst 2, 1) := by decide +kernel
theorem dX5_count_48 : decode cX5_count 48 = .ok (.if_icmp .ne 10, 3) := by decide +kernel
theorem dX5_count_51 : decode cX5_count 51 = .ok (.aload_n 0, 1) := by decide +kernel
theorem dX5_count_52 : decode cX5_count 52 = .ok (.getfield 100, 3) := by decide +kernel
theorem dX5_count_55 : decode cX5_count 55 = .ok (.goto 93, 3) := by decide +kernel
theorem dX5_count_58 : decode cX5_count 58 = .ok (.iload_n 1, 1) := by decide +kernel
theorem dX5_count_59 : decode cX5_count 59 = .ok (.iconst 3, 1) := by decide +kernel
theorem dX5_count_60 : decode cX5_count 60 = .ok (.if_icmp .ne 14, 3) := by decide +kernel
theorem dX5_count_63 : decode cX5_count 63 = .ok (.aload_n 0, 1) := by decide +kernel
theorem dX5_count_64 : decode cX5_count 64 = .ok (.getfield 41, 3) := by decide +kernel
theorem dX5_count_67 : decode cX5_count 67 = .ok (.iload_n 2, 1) := by decide +kernel
theorem dX5_count_68 : decode cX5_count 68 = .ok (.iconst 1, 1) := by decide +kernel
theorem dX5_count_69 : decode cX5_count 69 = .ok (.iadd, 1) := by decide +kernel
theorem dX5_count_70 : decode cX5_count 70 = .ok (.iaload, 1) := by decide +kernel
theorem dX5_count_71 : decode cX5_count 71 = .ok (.goto 77, 3) := by decide +kernel
theorem dX5_count_74 : decode cX5_count 74 = .ok (.iload_n 1, 1) := by decide +kernel
theorem dX5_count_75 : decode cX5_count 75 = .ok (.iconst 4, 1) := by decide +kernel
theorem dX5_count_76 : decode cX5_count 76 = .ok (.if_icmp .ne 14, 3) := by decide +kernel
theorem dX5_count_79 : decode cX5_count 79 = .ok (.aload_n 0, 1) := by decide +kernel
theorem dX5_count_80 : decode cX5_count 80 = .ok (.getfield 41, 3) := by decide +kernel
theorem dX5_count_83 : decode cX5_count 83 = .ok (.iload_n 2, 1) := by decide +kernel
theorem dX5_count_84 : decode cX5_count 84 = .ok (.iconst 2, 1) := by decide +kernel
theorem dX5_count_85 : decode cX5_count 85 = .ok (.iadd, 1) := by decide +kernel
theorem dX5_count_86 : decode cX5_count 86 = .ok (.iaload, 1) := by decide +kernel
theorem dX5_count_87 : decode cX5_count 87 = .ok (.goto 61, 3) := by decide +kernel
theorem dX5_count_90 : decode cX5_count 90 = .ok (.iload_n 1, 1) := by decide +kernel
theorem dX5_count_91 : decode cX5_count 91 = .ok (.iconst 5, 1) := by decide +kernel
theorem dX5_count_92 : decode cX5_count 92 = .ok (.if_icmp .ne 14, 3) := by decide +kernel
theorem dX5_count_95 : decode cX5_count 95 = .ok (.aload_n 0, 1) := by decide +kernel
theorem dX5_count_96 : decode cX5_count 96 = .ok (.getfield 41, 3) := by decide +kernel
theorem dX5_count_99 : decode cX5_count 99 = .ok (.iload_n 2, 1) := by decide +kernel
theorem dX5_count_100 : decode cX5_count 100 = .ok (.iconst 3, 1) := by decide +kernel
theorem dX5_count_101 : decode cX5_count 101 = .ok (.iadd, 1) := by decide +kernel
theorem dX5_count_102 : decode cX5_count 102 = .ok (.iaload, 1) := by decide +kernel
theorem dX5_count_103 : decode cX5_count 103 = .ok (.goto 45, 3) := by decide +kernel
theorem dX5_count_106 : decode cX5_count 106 = .ok (.iload_n 1, 1) := by decide +kernel
theorem dX5_count_107 : decode cX5_count 107 = .ok (.bipush 6, 2) := by decide +kernel
theorem dX5_count_109 : decode cX5_count 109 = .ok (.if_icmp .ne 14, 3) := by decide +kernel
theorem dX5_count_112 : decode cX5_count 112 = .ok (.aload_n 0, 1) := by decide +kernel
theorem dX5_count_113 : decode cX5_count 113 = .ok (.getfield 41, 3) := by decide +kernel
theorem dX5_count_116 : decode cX5_count 116 = .ok (.iload_n 2, 1) := by decide +kernel
theorem dX5_count_117 : decode cX5_count 117 = .ok (.iconst 4, 1) := by decide +kernel
theorem dX5_count_118 : decode cX5_count 118 = .ok (.iadd, 1) := by decide +kernel
theorem dX5_count_119 : decode cX5_count 119 = .ok (.iaload, 1) := by decide +kernel
theorem dX5_count_120 : decode cX5_count 120 = .ok (.goto 28, 3) := by decide +kernel
theorem dX5_count_123 : decode cX5_count 123 = .ok (.iload_n 1, 1) := by decide +kernel
theorem dX5_count_124 : decode cX5_count 124 = .ok (.bipush 7, 2) := by decide +kernel
theorem dX5_count_126 : decode cX5_count 126 = .ok (.if_icmp .ne 14, 3) := by decide +kernel
theorem dX5_count_129 : decode cX5_count 129 = .ok (.aload_n 0, 1) := by decide +kernel
theorem dX5_count_130 : decode cX5_count 130 = .ok (.getfield 41, 3) := by decide +kernel
theorem dX5_count_133 : decode cX5_count 133 = .ok (.iload_n 2, 1) := by decide +kernel
theorem dX5_count_134 : decode cX5_count 134 = .ok (.iconst 5, 1) := by decide +kernel
theorem dX5_count_135 : decode cX5_count 135 = .ok (.iadd, 1) := by decide +kernel
theorem dX5_count_136 : decode cX5_count 136 = .ok (.iaload, 1) := by decide +kernel
theorem dX5_count_137 : decode cX5_count 137 = .ok (.goto 11, 3) := by decide +kernel
theorem dX5_count_140 : decode cX5_count 140 = .ok (.aload_n 0, 1) := by decide +kernel
theorem dX5_count_141 : decode cX5_count 141 = .ok (.iload_n 1, 1) := by decide +kernel
theorem dX5_count_142 : decode cX5_count 142 = .ok (.bipush 8, 2) := by decide +kernel
theorem dX5_count_144 : decode cX5_count 144 = .ok (.isub, 1) := by decide +kernel
theorem dX5_count_145 : decode cX5_count 145 = .ok (.invokevirtual 214, 3) := by decide +kernel
theorem dX5_count_148 : decode cX5_count 148 = .ok (.ireturn, 1) := by decide +kernel
theorem dX5_finding_0 : decode cX5_finding 0 = .ok (.aload_n 0, 1) := by decide +kernel
theorem dX5_finding_1 : decode cX5_finding 1 = .ok (.getfield 57, 3) := by decide +kernel
theorem dX5_finding_4 : decode cX5_finding 4 = .ok (.ireturn, 1) := by decide +kernel
theorem dX5_findings_0 : decode cX5_findings 0 = .ok (.iload_n 1, 1) := by decide +kernel
theorem dX5_findings_1 : decode cX5_findings 1 = .ok (.i2l, 1) := by decide +kernel
theorem dX5_findings_2 : decode cX5_findings 2 = .ok (.lconst 1, 1) := by decide +kernel
theorem dX5_findings_3 : decode cX5_findings 3 = .ok (.ldc2_w 61, 3) := by decide +kernel
theorem dX5_findings_6 : decode cX5_findings 6 = .ok (.invokestatic 63, 3) := by decide +kernel
theorem dX5_findings_9 : decode cX5_findings 9 = .ok (.ifCond .eq 12, 3) := by decide +kernel
theorem dX5_findings_12 : decode cX5_findings 12 = .ok (.aload_n 0, 1) := by decide +kernel
theorem dX5_findings_13 : decode cX5_findings 13 = .ok (.getfield 51, 3) := by decide +kernel
theorem dX5_findings_16 : decode cX5_findings 16 = .ok (.iload_n 1, 1) := by decide +kernel
theorem dX5_findings_17 : decode cX5_findings 17 = .ok (.iaload, 1) := by decide +kernel
theorem dX5_findings_18 : decode cX5_findings 18 = .ok (.goto 4, 3) := by decide +kernel
theorem dX5_findings_21 : decode cX5_findings 21 = .ok (.iconst (-1), 1) := by decide +kernel
theorem dX5_findings_22 : decode cX5_findings 22 = .ok (.ireturn, 1) := by decide +kernel
theorem dX5_digest_0 : decode cX5_digest 0 = .ok (.ldc2_w 217, 3) := by decide +kernel
theorem dX5_digest_3 : decode cX5_digest 3 = .ok (.lstore_n 1, 1) := by decide +kernel
theorem dX5_digest_4 : decode cX5_digest 4 = .ok (.iconst 0, 1) := by decide +kernel
theorem dX5_digest_5 : decode cX5_digest 5 = .ok (.istore_n 3, 1) := by decide +kernel
theorem dX5_digest_6 : decode cX5_digest 6 = .ok (.iload_n 3, 1) := by decide +kernel
theorem dX5_digest_7 : decode cX5_digest 7 = .ok (.bipush 13, 2) := by decide +kernel
theorem dX5_digest_9 : decode cX5_digest 9 = .ok (.if_icmp .ge 22, 3) := by decide +kernel
theorem dX5_digest_12 : decode cX5_digest 12 = .ok (.ldc2_w 219, 3) := by decide +kernel
theorem dX5_digest_15 : decode cX5_digest 15 = .ok (.lload_n 1, 1) := by decide +kernel
theorem dX5_digest_16 : decode cX5_digest 16 = .ok (.lmul, 1) := by decide +kernel
theorem dX5_digest_17 : decode cX5_digest 17 = .ok (.aload_n 0, 1) := by decide +kernel
theorem dX5_digest_18 : decode cX5_digest 18 = .ok (.iload_n 3, 1) := by decide +kernel
theorem dX5_digest_19 : decode cX5_digest 19 = .ok (.invokevirtual 221, 3) := by decide +kernel
theorem dX5_digest_22 : decode cX5_digest 22 = .ok (.i2l, 1) := by decide +kernel
theorem dX5_digest_23 : decode cX5_digest 23 = .ok (.ladd, 1) := by decide +kernel
theorem dX5_digest_24 : decode cX5_digest 24 = .ok (.lstore_n 1, 1) := by decide +kernel
theorem dX5_digest_25 : decode cX5_digest 25 = .ok (.iinc 3 1, 3) := by decide +kernel
theorem dX5_digest_28 : decode cX5_digest 28 = .ok (.goto (-22), 3) := by decide +kernel
theorem dX5_digest_31 : decode cX5_digest 31 = .ok (.iconst 0, 1) := by decide +kernel
theorem dX5_digest_32 : decode cX5_digest 32 = .ok (.istore_n 3, 1) := by decide +kernel
theorem dX5_digest_33 : decode cX5_digest 33 = .ok (.iload_n 3, 1) := by decide +kernel
theorem dX5_digest_34 : decode cX5_digest 34 = .ok (.aload_n 0, 1) := by decide +kernel
theorem dX5_digest_35 : decode cX5_digest 35 = .ok (.getfield 97, 3) := by decide +kernel
theorem dX5_digest_38 : decode cX5_digest 38 = .ok (.if_icmp .ge 40, 3) := by decide +kernel
theorem dX5_digest_41 : decode cX5_digest 41 = .ok (.iconst 0, 1) := by decide +kernel
theorem dX5_digest_42 : decode cX5_digest 42 = .ok (.istore 4, 2) := by decide +kernel
theorem dX5_digest_44 : decode cX5_digest 44 = .ok (.iload 4, 2) := by decide +kernel
theorem dX5_digest_46 : decode cX5_digest 46 = .ok (.bipush 6, 2) := by decide +kernel
theorem dX5_digest_48 : decode cX5_digest 48 = .ok (.if_icmp .ge 24, 3) := by decide +kernel
theorem dX5_digest_51 : decode cX5_digest 51 = .ok (.ldc2_w 219, 3) := by decide +kernel
theorem dX5_digest_54 : decode cX5_digest 54 = .ok (.lload_n 1, 1) := by decide +kernel
theorem dX5_digest_55 : decode cX5_digest 55 = .ok (.lmul, 1) := by decide +kernel
theorem dX5_digest_56 : decode cX5_digest 56 = .ok (.aload_n 0, 1) := by decide +kernel
theorem dX5_digest_57 : decode cX5_digest 57 = .ok (.iload_n 3, 1) := by decide +kernel
theorem dX5_digest_58 : decode cX5_digest 58 = .ok (.iload 4, 2) := by decide +kernel
theorem dX5_digest_60 : decode cX5_digest 60 = .ok (.invokevirtual 137, 3) := by decide +kernel
theorem dX5_digest_63 : decode cX5_digest 63 = .ok (.i2l, 1) := by decide +kernel
theorem dX5_digest_64 : decode cX5_digest 64 = .ok (.ladd, 1) := by decide +kernel
theorem dX5_digest_65 : decode cX5_digest 65 = .ok (.lstore_n 1, 1) := by decide +kernel
theorem dX5_digest_66 : decode cX5_digest 66 = .ok (.iinc 4 1, 3) := by decide +kernel
theorem dX5_digest_69 : decode cX5_digest 69 = .ok (.goto (-25), 3) := by decide +kernel
theorem dX5_digest_72 : decode cX5_digest 72 = .ok (.iinc 3 1, 3) := by decide +kernel
theorem dX5_digest_75 : decode cX5_digest 75 = .ok (.goto (-42), 3) := by decide +kernel
theorem dX5_digest_78 : decode cX5_digest 78 = .ok (.iconst 0, 1) := by decide +kernel
theorem dX5_digest_79 : decode cX5_digest 79 = .ok (.istore_n 3, 1) := by decide +kernel
theorem dX5_digest_80 : decode cX5_digest 80 = .ok (.iload_n 3, 1) := by decide +kernel
theorem dX5_digest_81 : decode cX5_digest 81 = .ok (.iconst 3, 1) := by decide +kernel
theorem dX5_digest_82 : decode cX5_digest 82 = .ok (.if_icmp .ge 23, 3) := by decide +kernel
theorem dX5_digest_85 : decode cX5_digest 85 = .ok (.ldc2_w 219, 3) := by decide +kernel
theorem dX5_digest_88 : decode cX5_digest 88 = .ok (.lload_n 1, 1) := by decide +kernel
theorem dX5_digest_89 : decode cX5_digest 89 = .ok (.lmul, 1) := by decide +kernel
theorem dX5_digest_90 : decode cX5_digest 90 = .ok (.aload_n 0, 1) := by decide +kernel
theorem dX5_digest_91 : decode cX5_digest 91 = .ok (.getfield 44, 3) := by decide +kernel
theorem dX5_digest_94 : decode cX5_digest 94 = .ok (.iload_n 3, 1) := by decide +kernel
theorem dX5_digest_95 : decode cX5_digest 95 = .ok (.iaload, 1) := by decide +kernel
theorem dX5_digest_96 : decode cX5_digest 96 = .ok (.i2l, 1) := by decide +kernel
theorem dX5_digest_97 : decode cX5_digest 97 = .ok (.ladd, 1) := by decide +kernel
theorem dX5_digest_98 : decode cX5_digest 98 = .ok (.lstore_n 1, 1) := by decide +kernel
theorem dX5_digest_99 : decode cX5_digest 99 = .ok (.iinc 3 1, 3) := by decide +kernel
theorem dX5_digest_102 : decode cX5_digest 102 = .ok (.goto (-22), 3) := by decide +kernel
theorem dX5_digest_105 : decode cX5_digest 105 = .ok (.iconst 0, 1) := by decide +kernel
theorem dX5_digest_106 : decode cX5_digest 106 = .ok (.istore_n 3, 1) := by decide +kernel
theorem dX5_digest_107 : decode cX5_digest 107 = .ok (.iload_n 3, 1) := by decide +kernel
theorem dX5_digest_108 : decode cX5_digest 108 = .ok (.bipush 6, 2) := by decide +kernel
theorem dX5_digest_110 : decode cX5_digest 110 = .ok (.if_icmp .ge 63, 3) := by decide +kernel
theorem dX5_digest_113 : decode cX5_digest 113 = .ok (.ldc2_w 219, 3) := by decide +kernel
theorem dX5_digest_116 : decode cX5_digest 116 = .ok (.lload_n 1, 1) := by decide +kernel
theorem dX5_digest_117 : decode cX5_digest 117 = .ok (.lmul, 1) := by decide +kernel
theorem dX5_digest_118 : decode cX5_digest 118 = .ok (.aload_n 0, 1) := by decide +kernel
theorem dX5_digest_119 : decode cX5_digest 119 = .ok (.getfield 7, 3) := by decide +kernel
theorem dX5_digest_122 : decode cX5_digest 122 = .ok (.iload_n 3, 1) := by decide +kernel
theorem dX5_digest_123 : decode cX5_digest 123 = .ok (.iaload, 1) := by decide +kernel
theorem dX5_digest_124 : decode cX5_digest 124 = .ok (.i2l, 1) := by decide +kernel
theorem dX5_digest_125 : decode cX5_digest 125 = .ok (.ladd, 1) := by decide +kernel
theorem dX5_digest_126 : decode cX5_digest 126 = .ok (.lstore_n 1, 1) := by decide +kernel
theorem dX5_digest_127 : decode cX5_digest 127 = .ok (.iconst 0, 1) := by decide +kernel
theorem dX5_digest_128 : decode cX5_digest 128 = .ok (.istore 4, 2) := by decide +kernel
theorem dX5_digest_130 : decode cX5_digest 130 = .ok (.iload 4, 2) := by decide +kernel
theorem dX5_digest_132 : decode cX5_digest 132 = .ok (.aload_n 0, 1) := by decide +kernel
theorem dX5_digest_133 : decode cX5_digest 133 = .ok (.getfield 7, 3) := by decide +kernel
theorem dX5_digest_136 : decode cX5_digest 136 = .ok (.iload_n 3, 1) := by decide +kernel
theorem dX5_digest_137 : decode cX5_digest 137 = .ok (.iaload, 1) := by decide +kernel
theorem dX5_digest_138 : decode cX5_digest 138 = .ok (.if_icmp .ge 29, 3) := by decide +kernel
theorem dX5_digest_141 : decode cX5_digest 141 = .ok (.ldc2_w 219, 3) := by decide +kernel
theorem dX5_digest_144 : decode cX5_digest 144 = .ok (.lload_n 1, 1) := by decide +kernel
theorem dX5_digest_145 : decode cX5_digest 145 = .ok (.lmul, 1) := by decide +kernel
theorem dX5_digest_146 : decode cX5_digest 146 = .ok (.aload_n 0, 1) := by decide +kernel
theorem dX5_digest_147 : decode cX5_digest 147 = .ok (.getfield 13, 3) := by decide +kernel
theorem dX5_digest_150 : decode cX5_digest 150 = .ok (.bipush 40, 2) := by decide +kernel
theorem dX5_digest_152 : decode cX5_digest 152 = .ok (.iload_n 3, 1) := by decide +kernel
theorem dX5_digest_153 : decode cX5_digest 153 = .ok (.imul, 1) := by decide +kernel
theorem dX5_digest_154 : decode cX5_digest 154 = .ok (.iload 4, 2) := by decide +kernel
theorem dX5_digest_156 : decode cX5_digest 156 = .ok (.iadd, 1) := by decide +kernel
theorem dX5_digest_157 : decode cX5_digest 157 = .ok (.iaload, 1) := by decide +kernel
theorem dX5_digest_158 : decode cX5_digest 158 = .ok (.i2l, 1) := by decide +kernel
theorem dX5_digest_159 : decode cX5_digest 159 = .ok (.ladd, 1) := by decide +kernel
theorem dX5_digest_160 : decode cX5_digest 160 = .ok (.lstore_n 1, 1) := by decide +kernel
theorem dX5_digest_161 : decode cX5_digest 161 = .ok (.iinc 4 1, 3) := by decide +kernel
theorem dX5_digest_164 : decode cX5_digest 164 = .ok (.goto (-34), 3) := by decide +kernel
theorem dX5_digest_167 : decode cX5_digest 167 = .ok (.iinc 3 1, 3) := by decide +kernel
theorem dX5_digest_170 : decode cX5_digest 170 = .ok (.goto (-63), 3) := by decide +kernel
theorem dX5_digest_173 : decode cX5_digest 173 = .ok (.iconst 0, 1) := by decide +kernel
theorem dX5_digest_174 : decode cX5_digest 174 = .ok (.istore_n 3, 1) := by decide +kernel
theorem dX5_digest_175 : decode cX5_digest 175 = .ok (.iload_n 3, 1) := by decide +kernel
theorem dX5_digest_176 : decode cX5_digest 176 = .ok (.iconst 4, 1) := by decide +kernel
theorem dX5_digest_177 : decode cX5_digest 177 = .ok (.if_icmp .ge 63, 3) := by decide +kernel
theorem dX5_digest_180 : decode cX5_digest 180 = .ok (.ldc2_w 219, 3) := by decide +kernel
theorem dX5_digest_183 : decode cX5_digest 183 = .ok (.lload_n 1, 1) := by decide +kernel
theorem dX5_digest_184 : decode cX5_digest 184 = .ok (.lmul, 1) := by decide +kernel
theorem dX5_digest_185 : decode cX5_digest 185 = .ok (.aload_n 0, 1) := by decide +kernel
theorem dX5_digest_186 : decode cX5_digest 186 = .ok (.getfield 16, 3) := by decide +kernel
theorem dX5_digest_189 : decode cX5_digest 189 = .ok (.iload_n 3, 1) := by decide +kernel
theorem dX5_digest_190 : decode cX5_digest 190 = .ok (.iaload, 1) := by decide +kernel
theorem dX5_digest_191 : decode cX5_digest 191 = .ok (.i2l, 1) := by decide +kernel
theorem dX5_digest_192 : decode cX5_digest 192 = .ok (.ladd, 1) := by decide +kernel
theorem dX5_digest_193 : decode cX5_digest 193 = .ok (.lstore_n 1, 1) := by decide +kernel
theorem dX5_digest_194 : decode cX5_digest 194 = .ok (.iconst 0, 1) := by decide +kernel
theorem dX5_digest_195 : decode cX5_digest 195 = .ok (.istore 4, 2) := by decide +kernel
theorem dX5_digest_197 : decode cX5_digest 197 = .ok (.iload 4, 2) := by decide +kernel
theorem dX5_digest_199 : decode cX5_digest 199 = .ok (.aload_n 0, 1) := by decide +kernel
theorem dX5_digest_200 : decode cX5_digest 200 = .ok (.getfield 16, 3) := by decide +kernel
theorem dX5_digest_203 : decode cX5_digest 203 = .ok (.iload_n 3, 1) := by decide +kernel
theorem dX5_digest_204 : decode cX5_digest 204 = .ok (.iaload, 1) := by decide +kernel
theorem dX5_digest_205 : decode cX5_digest 205 = .ok (.if_icmp .ge 29, 3) := by decide +kernel
theorem dX5_digest_208 : decode cX5_digest 208 = .ok (.ldc2_w 219, 3) := by decide +kernel
theorem dX5_digest_211 : decode cX5_digest 211 = .ok (.lload_n 1, 1) := by decide +kernel
theorem dX5_digest_212 : decode cX5_digest 212 = .ok (.lmul, 1) := by decide +kernel
theorem dX5_digest_213 : decode cX5_digest 213 = .ok (.aload_n 0, 1) := by decide +kernel
theorem dX5_digest_214 : decode cX5_digest 214 = .ok (.getfield 19, 3) := by decide +kernel
theorem dX5_digest_217 : decode cX5_digest 217 = .ok (.bipush 60, 2) := by decide +kernel
theorem dX5_digest_219 : decode cX5_digest 219 = .ok (.iload_n 3, 1) := by decide +kernel
theorem dX5_digest_220 : decode cX5_digest 220 = .ok (.imul, 1) := by decide +kernel
theorem dX5_digest_221 : decode cX5_digest 221 = .ok (.iload 4, 2) := by decide +kernel
theorem dX5_digest_223 : decode cX5_digest 223 = .ok (.iadd, 1) := by decide +kernel
theorem dX5_digest_224 : decode cX5_digest 224 = .ok (.baload, 1) := by decide +kernel
theorem dX5_digest_225 : decode cX5_digest 225 = .ok (.i2l, 1) := by decide +kernel
theorem dX5_digest_226 : decode cX5_digest 226 = .ok (.ladd, 1) := by decide +kernel
theorem dX5_digest_227 : decode cX5_digest 227 = .ok (.lstore_n 1, 1) := by decide +kernel
theorem dX5_digest_228 : decode cX5_digest 228 = .ok (.iinc 4 1, 3) := by decide +kernel
theorem dX5_digest_231 : decode cX5_digest 231 = .ok (.goto (-34), 3) := by decide +kernel
theorem dX5_digest_234 : decode cX5_digest 234 = .ok (.iinc 3 1, 3) := by decide +kernel
theorem dX5_digest_237 : decode cX5_digest 237 = .ok (.goto (-62), 3) := by decide +kernel
theorem dX5_digest_240 : decode cX5_digest 240 = .ok (.lload_n 1, 1) := by decide +kernel
theorem dX5_digest_241 : decode cX5_digest 241 = .ok (.lreturn, 1) := by decide +kernel
end
section
abbrev cL_law : ByteArray := code
theorem dL_law_0 : decode cL_law 0 = .ok (.new 7, 3) := by decide +kernel
theorem dL_law_3 : decode cL_law 3 = .ok (.dup, 1) := by decide +kernel
theorem dL_law_4 : decode cL_law 4 = .ok (.invokespecial 9, 3) := by decide +kernel
theorem dL_law_7 : decode cL_law 7 = .ok (.astore_n 1, 1) := by decide +kernel
theorem dL_law_8 : decode cL_law 8 = .ok (.new 10, 3) := by decide +kernel
theorem dL_law_11 : decode cL_law 11 = .ok (.dup, 1) := by decide +kernel
theorem dL_law_12 : decode cL_law 12 = .ok (.invokespecial 12, 3) := by decide +kernel
theorem dL_law_15 : decode cL_law 15 = .ok (.astore_n 2, 1) := by decide +kernel
theorem dL_law_16 : decode cL_law 16 = .ok (.iconst 0, 1) := by decide +kernel
theorem dL_law_17 : decode cL_law 17 = .ok (.istore_n 3, 1) := by decide +kernel
theorem dL_law_18 : decode cL_law 18 = .ok (.iload_n 3, 1) := by decide +kernel
theorem dL_law_19 : decode cL_law 19 = .ok (.aload_n 0, 1) := by decide +kernel
theorem dL_law_20 : decode cL_law 20 = .ok (.arraylength, 1) := by decide +kernel
theorem dL_law_21 : decode cL_law 21 = .ok (.bipush 6, 2) := by decide +kernel
theorem dL_law_23 : decode cL_law 23 = .ok (.isub, 1) := by decide +kernel
theorem dL_law_24 : decode cL_law 24 = .ok (.if_icmp .gt 1307, 3) := by decide +kernel
theorem dL_law_27 : decode cL_law 27 = .ok (.aload_n 0, 1) := by decide +kernel
theorem dL_law_28 : decode cL_law 28 = .ok (.iload_n 3, 1) := by decide +kernel
theorem dL_law_29 : decode cL_law 29 = .ok (.iaload, 1) := by decide +kernel
theorem dL_law_30 : decode cL_law 30 = .ok (.bipush 63, 2) := by decide +kernel
theorem dL_law_32 : decode cL_law 32 = .ok (.iand, 1) := by decide +kernel
theorem dL_law_33 : decode cL_law 33 = .ok (.tableswitch 1292 0 41 #[183, 216, 259, 292, 315, 378, 401, 434, 477, 500, 523, 556, 589, 632, 645, 668, 681, 704, 727, 750, 773, 796, 809, 842, 865, 898, 931, 954, 977, 1010, 1043, 1066, 1089, 1122, 1145, 1178, 1191, 1205, 1219, 1242, 1255, 1278], 183) := by decide +kernel
theorem dL_law_216 : decode cL_law 216 = .ok (.aload_n 1, 1) := by decide +kernel
theorem dL_law_217 : decode cL_law 217 = .ok (.aload_n 0, 1) := by decide +kernel
theorem dL_law_218 : decode cL_law 218 = .ok (.iload_n 3, 1) := by decide +kernel
theorem dL_law_219 : decode cL_law 219 = .ok (.iconst 1, 1) := by decide +kernel
theorem dL_law_220 : decode cL_law 220 = .ok (.iadd, 1) := by decide +kernel
theorem dL_law_221 : decode cL_law 221 = .ok (.iaload, 1) := by decide +kernel
theorem dL_law_222 : decode cL_law 222 = .ok (.aload_n 0, 1) := by decide +kernel
theorem dL_law_223 : decode cL_law 223 = .ok (.iload_n 3, 1) := by decide +kernel
theorem dL_law_224 : decode cL_law 224 = .ok (.iconst 2, 1) := by decide +kernel
theorem dL_law_225 : decode cL_law 225 = .ok (.iadd, 1) := by decide +kernel
theorem dL_law_226 : decode cL_law 226 = .ok (.iaload, 1) := by decide +kernel
theorem dL_law_227 : decode cL_law 227 = .ok (.invokevirtual 13, 3) := by decide +kernel
theorem dL_law_230 : decode cL_law 230 = .ok (.aload_n 2, 1) := by decide +kernel
theorem dL_law_231 : decode cL_law 231 = .ok (.aload_n 0, 1) := by decide +kernel
theorem dL_law_232 : decode cL_law 232 = .ok (.iload_n 3, 1) := by decide +kernel
theorem dL_law_233 : decode cL_law 233 = .ok (.iconst 1, 1) := by decide +kernel
theorem dL_law_234 : decode cL_law 234 = .ok (.iadd, 1) := by decide +kernel
theorem dL_law_235 : decode cL_law 235 = .ok (.iaload, 1) := by decide +kernel
theorem dL_law_236 : decode cL_law 236 = .ok (.aload_n 0, 1) := by decide +kernel
theorem dL_law_237 : decode cL_law 237 = .ok (.iload_n 3, 1) := by decide +kernel
theorem dL_law_238 : decode cL_law 238 = .ok (.iconst 2, 1) := by decide +kernel
theorem dL_law_239 : decode cL_law 239 = .ok (.iadd, 1) := by decide +kernel
theorem dL_law_240 : decode cL_law 240 = .ok (.iaload, 1) := by decide +kernel
theorem dL_law_241 : decode cL_law 241 = .ok (.invokevirtual 17, 3) := by decide +kernel
theorem dL_law_244 : decode cL_law 244 = .ok (.if_icmp .eq 1081, 3) := by decide +kernel
theorem dL_law_247 : decode cL_law 247 = .ok (.iconst 0, 1) := by decide +kernel
theorem dL_law_248 : decode cL_law 248 = .ok (.ireturn, 1) := by decide +kernel
theorem dL_law_249 : decode cL_law 249 = .ok (.aload_n 1, 1) := by decide +kernel
theorem dL_law_250 : decode cL_law 250 = .ok (.aload_n 0, 1) := by decide +kernel
theorem dL_law_251 : decode cL_law 251 = .ok (.iload_n 3, 1) := by decide +kernel
theorem dL_law_252 : decode cL_law 252 = .ok (.iconst 1, 1) := by decide +kernel
theorem dL_law_253 : decode cL_law 253 = .ok (.iadd, 1) := by decide +kernel
theorem dL_law_254 : decode cL_law 254 = .ok (.iaload, 1) := by decide +kernel
theorem dL_law_255 : decode cL_law 255 = .ok (.aload_n 0, 1) := by decide +kernel
theorem dL_law_256 : decode cL_law 256 = .ok (.iload_n 3, 1) := by decide +kernel
theorem dL_law_257 : decode cL_law 257 = .ok (.iconst 2, 1) := by decide +kernel
theorem dL_law_258 : decode cL_law 258 = .ok (.iadd, 1) := by decide +kernel
theorem dL_law_259 : decode cL_law 259 = .ok (.iaload, 1) := by decide +kernel
theorem dL_law_260 : decode cL_law 260 = .ok (.aload_n 0, 1) := by decide +kernel
theorem dL_law_261 : decode cL_law 261 = .ok (.iload_n 3, 1) := by decide +kernel
theorem dL_law_262 : decode cL_law 262 = .ok (.iconst 3, 1) := by decide +kernel
theorem dL_law_263 : decode cL_law 263 = .ok (.iadd, 1) := by decide +kernel
theorem dL_law_264 : decode cL_law 264 = .ok (.iaload, 1) := by decide +kernel
theorem dL_law_265 : decode cL_law 265 = .ok (.invokevirtual 18, 3) := by decide +kernel
theorem dL_law_268 : decode cL_law 268 = .ok (.aload_n 2, 1) := by decide +kernel
theorem dL_law_269 : decode cL_law 269 = .ok (.aload_n 0, 1) := by decide +kernel
theorem dL_law_270 : decode cL_law 270 = .ok (.iload_n 3, 1) := by decide +kernel
theorem dL_law_271 : decode cL_law 271 = .ok (.iconst 1, 1) := by decide +kernel
theorem dL_law_272 : decode cL_law 272 = .ok (.iadd, 1) := by decide +kernel
theorem dL_law_273 : decode cL_law 273 = .ok (.iaload, 1) := by decide +kernel
theorem dL_law_274 : decode cL_law 274 = .ok (.aload_n 0, 1) := by decide +kernel
theorem dL_law_275 : decode cL_law 275 = .ok (.iload_n 3, 1) := by decide +kernel
theorem dL_law_276 : decode cL_law 276 = .ok (.iconst 2, 1) := by decide +kernel
theorem dL_law_277 : decode cL_law 277 = .ok (.iadd, 1) := by decide +kernel
theorem dL_law_278 : decode cL_law 278 = .ok (.iaload, 1) := by decide +kernel
theorem dL_law_279 : decode cL_law 279 = .ok (.aload_n 0, 1) := by decide +kernel
theorem dL_law_280 : decode cL_law 280 = .ok (.iload_n 3, 1) := by decide +kernel
theorem dL_law_281 : decode cL_law 281 = .ok (.iconst 3, 1) := by decide +kernel
theorem dL_law_282 : decode cL_law 282 = .ok (.iadd, 1) := by decide +kernel
theorem dL_law_283 : decode cL_law 283 = .ok (.iaload, 1) := by decide +kernel
theorem dL_law_284 : decode cL_law 284 = .ok (.invokevirtual 22, 3) := by decide +kernel
theorem dL_law_287 : decode cL_law 287 = .ok (.if_icmp .eq 1038, 3) := by decide +kernel
theorem dL_law_290 : decode cL_law 290 = .ok (.iconst 0, 1) := by decide +kernel
theorem dL_law_291 : decode cL_law 291 = .ok (.ireturn, 1) := by decide +kernel
theorem dL_law_292 : decode cL_law 292 = .ok (.aload_n 1, 1) := by decide +kernel
theorem dL_law_293 : decode cL_law 293 = .ok (.aload_n 0, 1) := by decide +kernel
theorem dL_law_294 : decode cL_law 294 = .ok (.iload_n 3, 1) := by decide +kernel
theorem dL_law_295 : decode cL_law 295 = .ok (.iconst 1, 1) := by decide +kernel
theorem dL_law_296 : decode cL_law 296 = .ok (.iadd, 1) := by decide +kernel
theorem dL_law_297 : decode cL_law 297 = .ok (.iaload, 1) := by decide +kernel
theorem dL_law_298 : decode cL_law 298 = .ok (.aload_n 0, 1) := by decide +kernel
theorem dL_law_299 : decode cL_law 299 = .ok (.iload_n 3, 1) := by decide +kernel
theorem dL_law_300 : decode cL_law 300 = .ok (.iconst 2, 1) := by decide +kernel
theorem dL_law_301 : decode cL_law 301 = .ok (.iadd, 1) := by decide +kernel
theorem dL_law_302 : decode cL_law 302 = .ok (.iaload, 1) := by decide +kernel
theorem dL_law_303 : decode cL_law 303 = .ok (.invokevirtual 23, 3) := by decide +kernel
theorem dL_law_306 : decode cL_law 306 = .ok (.aload_n 2, 1) := by decide +kernel
theorem dL_law_307 : decode cL_law 307 = .ok (.aload_n 0, 1) := by decide +kernel
theorem dL_law_308 : decode cL_law 308 = .ok (.iload_n 3, 1) := by decide +kernel
theorem dL_law_309 : decode cL_law 309 = .ok (.iconst 1, 1) := by decide +kernel
theorem dL_law_310 : decode cL_law 310 = .ok (.iadd, 1) := by decide +kernel
theorem dL_law_311 : decode cL_law 311 = .ok (.iaload, 1) := by decide +kernel
theorem dL_law_312 : decode cL_law 312 = .ok (.aload_n 0, 1) := by decide +kernel
theorem dL_law_313 : decode cL_law 313 = .ok (.iload_n 3, 1) := by decide +kernel
theorem dL_law_314 : decode cL_law 314 = .ok (.iconst 2, 1) := by decide +kernel
theorem dL_law_315 : decode cL_law 315 = .ok (.iadd, 1) := by decide +kernel
theorem dL_law_316 : decode cL_law 316 = .ok (.iaload, 1) := by decide +kernel
theorem dL_law_317 : decode cL_law 317 = .ok (.invokevirtual 26, 3) := by decide +kernel
theorem dL_law_320 : decode cL_law 320 = .ok (.if_icmp .eq 1005, 3) := by decide +kernel
theorem dL_law_323 : decode cL_law 323 = .ok (.iconst 0, 1) := by decide +kernel
theorem dL_law_324 : decode cL_law 324 = .ok (.ireturn, 1) := by decide +kernel
theorem dL_law_325 : decode cL_law 325 = .ok (.aload_n 1, 1) := by decide +kernel
theorem dL_law_326 : decode cL_law 326 = .ok (.aload_n 0, 1) := by decide +kernel
theorem dL_law_327 : decode cL_law 327 = .ok (.iload_n 3, 1) := by decide +kernel
theorem dL_law_328 : decode cL_law 328 = .ok (.iconst 1, 1) := by decide +kernel
theorem dL_law_329 : decode cL_law 329 = .ok (.iadd, 1) := by decide +kernel
theorem dL_law_330 : decode cL_law 330 = .ok (.iaload, 1) := by decide +kernel
theorem dL_law_331 : decode cL_law 331 = .ok (.invokevirtual 27, 3) := by decide +kernel
theorem dL_law_334 : decode cL_law 334 = .ok (.aload_n 2, 1) := by decide +kernel
theorem dL_law_335 : decode cL_law 335 = .ok (.aload_n 0, 1) := by decide +kernel
theorem dL_law_336 : decode cL_law 336 = .ok (.iload_n 3, 1) := by decide +kernel
theorem dL_law_337 : decode cL_law 337 = .ok (.iconst 1, 1) := by decide +kernel
theorem dL_law_338 : decode cL_law 338 = .ok (.iadd, 1) := by decide +kernel
theorem dL_law_339 : decode cL_law 339 = .ok (.iaload, 1) := by decide +kernel
theorem dL_law_340 : decode cL_law 340 = .ok (.invokevirtual 31, 3) := by decide +kernel
theorem dL_law_343 : decode cL_law 343 = .ok (.if_icmp .eq 982, 3) := by decide +kernel
theorem dL_law_346 : decode cL_law 346 = .ok (.iconst 0, 1) := by decide +kernel
theorem dL_law_347 : decode cL_law 347 = .ok (.ireturn, 1) := by decide +kernel
theorem dL_law_348 : decode cL_law 348 = .ok (.aload_n 1, 1) := by decide +kernel
theorem dL_law_349 : decode cL_law 349 = .ok (.aload_n 0, 1) := by decide +kernel
theorem dL_law_350 : decode cL_law 350 = .ok (.iload_n 3, 1) := by decide +kernel
theorem dL_law_351 : decode cL_law 351 = .ok (.iconst 1, 1) := by decide +kernel
theorem dL_law_352 : decode cL_law 352 = .ok (.iadd, 1) := by decide +kernel
theorem dL_law_353 : decode cL_law 353 = .ok (.iaload, 1) := by decide +kernel
theorem dL_law_354 : decode cL_law 354 = .ok (.aload_n 0, 1) := by decide +kernel
theorem dL_law_355 : decode cL_law 355 = .ok (.iload_n 3, 1) := by decide +kernel
theorem dL_law_356 : decode cL_law 356 = .ok (.iconst 2, 1) := by decide +kernel
theorem dL_law_357 : decode cL_law 357 = .ok (.iadd, 1) := by decide +kernel
theorem dL_law_358 : decode cL_law 358 = .ok (.iaload, 1) := by decide +kernel
theorem dL_law_359 : decode cL_law 359 = .ok (.aload_n 0, 1) := by decide +kernel
theorem dL_law_360 : decode cL_law 360 = .ok (.iload_n 3, 1) := by decide +kernel
theorem dL_law_361 : decode cL_law 361 = .ok (.iconst 3, 1) := by decide +kernel
theorem dL_law_362 : decode cL_law 362 = .ok (.iadd, 1) := by decide +kernel
theorem dL_law_363 : decode cL_law 363 = .ok (.iaload, 1) := by decide +kernel
theorem dL_law_364 : decode cL_law 364 = .ok (.aload_n 0, 1) := by decide +kernel
theorem dL_law_365 : decode cL_law 365 = .ok (.iload_n 3, 1) := by decide +kernel
theorem dL_law_366 : decode cL_law 366 = .ok (.iconst 4, 1) := by decide +kernel
theorem dL_law_367 : decode cL_law 367 = .ok (.iadd, 1) := by decide +kernel
theorem dL_law_368 : decode cL_law 368 = .ok (.iaload, 1) := by decide +kernel
theorem dL_law_369 : decode cL_law 369 = .ok (.aload_n 0, 1) := by decide +kernel
theorem dL_law_370 : decode cL_law 370 = .ok (.iload_n 3, 1) := by decide +kernel
theorem dL_law_371 : decode cL_law 371 = .ok (.iconst 5, 1) := by decide +kernel
theorem dL_law_372 : decode cL_law 372 = .ok (.iadd, 1) := by decide +kernel
theorem dL_law_373 : decode cL_law 373 = .ok (.iaload, 1) := by decide +kernel
theorem dL_law_374 : decode cL_law 374 = .ok (.invokevirtual 32, 3) := by decide +kernel
theorem dL_law_377 : decode cL_law 377 = .ok (.aload_n 2, 1) := by decide +kernel
theorem dL_law_378 : decode cL_law 378 = .ok (.aload_n 0, 1) := by decide +kernel
theorem dL_law_379 : decode cL_law 379 = .ok (.iload_n 3, 1) := by decide +kernel
theorem dL_law_380 : decode cL_law 380 = .ok (.iconst 1, 1) := by decide +kernel
theorem dL_law_381 : decode cL_law 381 = .ok (.iadd, 1) := by decide +kernel
theorem dL_law_382 : decode cL_law 382 = .ok (.iaload, 1) := by decide +kernel
theorem dL_law_383 : decode cL_law 383 = .ok (.aload_n 0, 1) := by decide +kernel
theorem dL_law_384 : decode cL_law 384 = .ok (.iload_n 3, 1) := by decide +kernel
theorem dL_law_385 : decode cL_law 385 = .ok (.iconst 2, 1) := by decide +kernel
theorem dL_law_386 : decode cL_law 386 = .ok (.iadd, 1) := by decide +kernel
theorem dL_law_387 : decode cL_law 387 = .ok (.iaload, 1) := by decide +kernel
theorem dL_law_388 : decode cL_law 388 = .ok (.aload_n 0, 1) := by decide +kernel
theorem dL_law_389 : decode cL_law 389 = .ok (.iload_n 3, 1) := by decide +kernel
theorem dL_law_390 : decode cL_law 390 = .ok (.iconst 3, 1) := by decide +kernel
theorem dL_law_391 : decode cL_law 391 = .ok (.iadd, 1) := by decide +kernel
theorem dL_law_392 : decode cL_law 392 = .ok (.iaload, 1) := by decide +kernel
theorem dL_law_393 : decode cL_law 393 = .ok (.aload_n 0, 1) := by decide +kernel
theorem dL_law_394 : decode cL_law 394 = .ok (.iload_n 3, 1) := by decide +kernel
theorem dL_law_395 : decode cL_law 395 = .ok (.iconst 4, 1) := by decide +kernel
theorem dL_law_396 : decode cL_law 396 = .ok (.iadd, 1) := by decide +kernel
theorem dL_law_397 : decode cL_law 397 = .ok (.iaload, 1) := by decide +kernel
theorem dL_law_398 : decode cL_law 398 = .ok (.aload_n 0, 1) := by decide +kernel
theorem dL_law_399 : decode cL_law 399 = .ok (.iload_n 3, 1) := by decide +kernel
theorem dL_law_400 : decode cL_law 400 = .ok (.iconst 5, 1) := by decide +kernel
theorem dL_law_401 : decode cL_law 401 = .ok (.iadd, 1) := by decide +kernel
theorem dL_law_402 : decode cL_law 402 = .ok (.iaload, 1) := by decide +kernel
theorem dL_law_403 : decode cL_law 403 = .ok (.invokevirtual 36, 3) := by decide +kernel
theorem dL_law_406 : decode cL_law 406 = .ok (.if_icmp .eq 919, 3) := by decide +kernel
theorem dL_law_409 : decode cL_law 409 = .ok (.iconst 0, 1) := by decide +kernel
theorem dL_law_410 : decode cL_law 410 = .ok (.ireturn, 1) := by decide +kernel
theorem dL_law_411 : decode cL_law 411 = .ok (.aload_n 1, 1) := by decide +kernel
theorem dL_law_412 : decode cL_law 412 = .ok (.aload_n 0, 1) := by decide +kernel
theorem dL_law_413 : decode cL_law 413 = .ok (.iload_n 3, 1) := by decide +kernel
theorem dL_law_414 : decode cL_law 414 = .ok (.iconst 1, 1) := by decide +kernel
theorem dL_law_415 : decode cL_law 415 = .ok (.iadd, 1) := by decide +kernel
theorem dL_law_416 : decode cL_law 416 = .ok (.iaload, 1) := by decide +kernel
theorem dL_law_417 : decode cL_law 417 = .ok (.invokevirtual 37, 3) := by decide +kernel
theorem dL_law_420 : decode cL_law 420 = .ok (.aload_n 2, 1) := by decide +kernel
theorem dL_law_421 : decode cL_law 421 = .ok (.aload_n 0, 1) := by decide +kernel
theorem dL_law_422 : decode cL_law 422 = .ok (.iload_n 3, 1) := by decide +kernel
theorem dL_law_423 : decode cL_law 423 = .ok (.iconst 1, 1) := by decide +kernel
theorem dL_law_424 : decode cL_law 424 = .ok (.iadd, 1) := by decide +kernel
theorem dL_law_425 : decode cL_law 425 = .ok (.iaload, 1) := by decide +kernel
theorem dL_law_426 : decode cL_law 426 = .ok (.invokevirtual 40, 3) := by decide +kernel
theorem dL_law_429 : decode cL_law 429 = .ok (.if_icmp .eq 896, 3) := by decide +kernel
theorem dL_law_432 : decode cL_law 432 = .ok (.iconst 0, 1) := by decide +kernel
theorem dL_law_433 : decode cL_law 433 = .ok (.ireturn, 1) := by decide +kernel
theorem dL_law_434 : decode cL_law 434 = .ok (.aload_n 1, 1) := by decide +kernel
theorem dL_law_435 : decode cL_law 435 = .ok (.aload_n 0, 1) := by decide +kernel
theorem dL_law_436 : decode cL_law 436 = .ok (.iload_n 3, 1) := by decide +kernel
theorem dL_law_437 : decode cL_law 437 = .ok (.iconst 1, 1) := by decide +kernel
theorem dL_law_438 : decode cL_law 438 = .ok (.iadd, 1) := by decide +kernel
theorem dL_law_439 : decode cL_law 439 = .ok (.iaload, 1) := by decide +kernel
theorem dL_law_440 : decode cL_law 440 = .ok (.aload_n 0, 1) := by decide +kernel
theorem dL_law_441 : decode cL_law 441 = .ok (.iload_n 3, 1) := by decide +kernel
theorem dL_law_442 : decode cL_law 442 = .ok (.iconst 2, 1) := by decide +kernel
theorem dL_law_443 : decode cL_law 443 = .ok (.iadd, 1) := by decide +kernel
theorem dL_law_444 : decode cL_law 444 = .ok (.iaload, 1) := by decide +kernel
theorem dL_law_445 : decode cL_law 445 = .ok (.invokevirtual 41, 3) := by decide +kernel
theorem dL_law_448 : decode cL_law 448 = .ok (.aload_n 2, 1) := by decide +kernel
theorem dL_law_449 : decode cL_law 449 = .ok (.aload_n 0, 1) := by decide +kernel
theorem dL_law_450 : decode cL_law 450 = .ok (.iload_n 3, 1) := by decide +kernel
theorem dL_law_451 : decode cL_law 451 = .ok (.iconst 1, 1) := by decide +kernel
theorem dL_law_452 : decode cL_law 452 = .ok (.iadd, 1) := by decide +kernel
theorem dL_law_453 : decode cL_law 453 = .ok (.iaload, 1) := by decide +kernel
theorem dL_law_454 : decode cL_law 454 = .ok (.aload_n 0, 1) := by decide +kernel
theorem dL_law_455 : decode cL_law 455 = .ok (.iload_n 3, 1) := by decide +kernel
theorem dL_law_456 : decode cL_law 456 = .ok (.iconst 2, 1) := by decide +kernel
theorem dL_law_457 : decode cL_law 457 = .ok (.iadd, 1) := by decide +kernel
theorem dL_law_458 : decode cL_law 458 = .ok (.iaload, 1) := by decide +kernel
theorem dL_law_459 : decode cL_law 459 = .ok (.invokevirtual 44, 3) := by decide +kernel
theorem dL_law_462 : decode cL_law 462 = .ok (.if_icmp .eq 863, 3) := by decide +kernel
theorem dL_law_465 : decode cL_law 465 = .ok (.iconst 0, 1) := by decide +kernel
theorem dL_law_466 : decode cL_law 466 = .ok (.ireturn, 1) := by decide +kernel
theorem dL_law_467 : decode cL_law 467 = .ok (.aload_n 1, 1) := by decide +kernel
theorem dL_law_468 : decode cL_law 468 = .ok (.aload_n 0, 1) := by decide +kernel
theorem dL_law_469 : decode cL_law 469 = .ok (.iload_n 3, 1) := by decide +kernel
theorem dL_law_470 : decode cL_law 470 = .ok (.iconst 1, 1) := by decide +kernel
theorem dL_law_471 : decode cL_law 471 = .ok (.iadd, 1) := by decide +kernel
theorem dL_law_472 : decode cL_law 472 = .ok (.iaload, 1) := by decide +kernel
theorem dL_law_473 : decode cL_law 473 = .ok (.aload_n 0, 1) := by decide +kernel
theorem dL_law_474 : decode cL_law 474 = .ok (.iload_n 3, 1) := by decide +kernel
theorem dL_law_475 : decode cL_law 475 = .ok (.iconst 2, 1) := by decide +kernel
theorem dL_law_476 : decode cL_law 476 = .ok (.iadd, 1) := by decide +kernel
theorem dL_law_477 : decode cL_law 477 = .ok (.iaload, 1) := by decide +kernel
theorem dL_law_478 : decode cL_law 478 = .ok (.aload_n 0, 1) := by decide +kernel
theorem dL_law_479 : decode cL_law 479 = .ok (.iload_n 3, 1) := by decide +kernel
theorem dL_law_480 : decode cL_law 480 = .ok (.iconst 3, 1) := by decide +kernel
theorem dL_law_481 : decode cL_law 481 = .ok (.iadd, 1) := by decide +kernel
theorem dL_law_482 : decode cL_law 482 = .ok (.iaload, 1) := by decide +kernel
theorem dL_law_483 : decode cL_law 483 = .ok (.invokevirtual 45, 3) := by decide +kernel
theorem dL_law_486 : decode cL_law 486 = .ok (.aload_n 2, 1) := by decide +kernel
theorem dL_law_487 : decode cL_law 487 = .ok (.aload_n 0, 1) := by decide +kernel
theorem dL_law_488 : decode cL_law 488 = .ok (.iload_n 3, 1) := by decide +kernel
theorem dL_law_489 : decode cL_law 489 = .ok (.iconst 1, 1) := by decide +kernel
theorem dL_law_490 : decode cL_law 490 = .ok (.iadd, 1) := by decide +kernel
theorem dL_law_491 : decode cL_law 491 = .ok (.iaload, 1) := by decide +kernel
theorem dL_law_492 : decode cL_law 492 = .ok (.aload_n 0, 1) := by decide +kernel
theorem dL_law_493 : decode cL_law 493 = .ok (.iload_n 3, 1) := by decide +kernel
theorem dL_law_494 : decode cL_law 494 = .ok (.iconst 2, 1) := by decide +kernel
theorem dL_law_495 : decode cL_law 495 = .ok (.iadd, 1) := by decide +kernel
theorem dL_law_496 : decode cL_law 496 = .ok (.iaload, 1) := by decide +kernel
theorem dL_law_497 : decode cL_law 497 = .ok (.aload_n 0, 1) := by decide +kernel
theorem dL_law_498 : decode cL_law 498 = .ok (.iload_n 3, 1) := by decide +kernel
theorem dL_law_499 : decode cL_law 499 = .ok (.iconst 3, 1) := by decide +kernel
theorem dL_law_500 : decode cL_law 500 = .ok (.iadd, 1) := by decide +kernel
theorem dL_law_501 : decode cL_law 501 = .ok (.iaload, 1) := by decide +kernel
theorem dL_law_502 : decode cL_law 502 = .ok (.invokevirtual 48, 3) := by decide +kernel
theorem dL_law_505 : decode cL_law 505 = .ok (.if_icmp .eq 820, 3) := by decide +kernel
theorem dL_law_508 : decode cL_law 508 = .ok (.iconst 0, 1) := by decide +kernel
theorem dL_law_509 : decode cL_law 509 = .ok (.ireturn, 1) := by decide +kernel
theorem dL_law_510 : decode cL_law 510 = .ok (.aload_n 1, 1) := by decide +kernel
theorem dL_law_511 : decode cL_law 511 = .ok (.aload_n 0, 1) := by decide +kernel
theorem dL_law_512 : decode cL_law 512 = .ok (.iload_n 3, 1) := by decide +kernel
theorem dL_law_513 : decode cL_law 513 = .ok (.iconst 1, 1) := by decide +kernel
theorem dL_law_514 : decode cL_law 514 = .ok (.iadd, 1) := by decide +kernel
theorem dL_law_515 : decode cL_law 515 = .ok (.iaload, 1) := by decide +kernel
theorem dL_law_516 : decode cL_law 516 = .ok (.invokevirtual 49, 3) := by decide +kernel
theorem dL_law_519 : decode cL_law 519 = .ok (.aload_n 2, 1) := by decide +kernel
theorem dL_law_520 : decode cL_law 520 = .ok (.aload_n 0, 1) := by decide +kernel
theorem dL_law_521 : decode cL_law 521 = .ok (.iload_n 3, 1) := by decide +kernel
theorem dL_law_522 : decode cL_law 522 = .ok (.iconst 1, 1) := by decide +kernel
theorem dL_law_523 : decode cL_law 523 = .ok (.iadd, 1) := by decide +kernel
theorem dL_law_524 : decode cL_law 524 = .ok (.iaload, 1) := by decide +kernel
theorem dL_law_525 : decode cL_law 525 = .ok (.invokevirtual 52, 3) := by decide +kernel
theorem dL_law_528 : decode cL_law 528 = .ok (.if_icmp .eq 797, 3) := by decide +kernel
theorem dL_law_531 : decode cL_law 531 = .ok (.iconst 0, 1) := by decide +kernel
theorem dL_law_532 : decode cL_law 532 = .ok (.ireturn, 1) := by decide +kernel
theorem dL_law_533 : decode cL_law 533 = .ok (.aload_n 1, 1) := by decide +kernel
theorem dL_law_534 : decode cL_law 534 = .ok (.aload_n 0, 1) := by decide +kernel
theorem dL_law_535 : decode cL_law 535 = .ok (.iload_n 3, 1) := by decide +kernel
theorem dL_law_536 : decode cL_law 536 = .ok (.iconst 1, 1) := by decide +kernel
theorem dL_law_537 : decode cL_law 537 = .ok (.iadd, 1) := by decide +kernel
theorem dL_law_538 : decode cL_law 538 = .ok (.iaload, 1) := by decide +kernel
theorem dL_law_539 : decode cL_law 539 = .ok (.invokevirtual 53, 3) := by decide +kernel
theorem dL_law_542 : decode cL_law 542 = .ok (.aload_n 2, 1) := by decide +kernel
theorem dL_law_543 : decode cL_law 543 = .ok (.aload_n 0, 1) := by decide +kernel
theorem dL_law_544 : decode cL_law 544 = .ok (.iload_n 3, 1) := by decide +kernel
theorem dL_law_545 : decode cL_law 545 = .ok (.iconst 1, 1) := by decide +kernel
theorem dL_law_546 : decode cL_law 546 = .ok (.iadd, 1) := by decide +kernel
theorem dL_law_547 : decode cL_law 547 = .ok (.iaload, 1) := by decide +kernel
theorem dL_law_548 : decode cL_law 548 = .ok (.invokevirtual 56, 3) := by decide +kernel
theorem dL_law_551 : decode cL_law 551 = .ok (.if_icmp .eq 774, 3) := by decide +kernel
theorem dL_law_554 : decode cL_law 554 = .ok (.iconst 0, 1) := by decide +kernel
theorem dL_law_555 : decode cL_law 555 = .ok (.ireturn, 1) := by decide +kernel
theorem dL_law_556 : decode cL_law 556 = .ok (.aload_n 1, 1) := by decide +kernel
theorem dL_law_557 : decode cL_law 557 = .ok (.aload_n 0, 1) := by decide +kernel
theorem dL_law_558 : decode cL_law 558 = .ok (.iload_n 3, 1) := by decide +kernel
theorem dL_law_559 : decode cL_law 559 = .ok (.iconst 1, 1) := by decide +kernel
theorem dL_law_560 : decode cL_law 560 = .ok (.iadd, 1) := by decide +kernel
theorem dL_law_561 : decode cL_law 561 = .ok (.iaload, 1) := by decide +kernel
theorem dL_law_562 : decode cL_law 562 = .ok (.aload_n 0, 1) := by decide +kernel
theorem dL_law_563 : decode cL_law 563 = .ok (.iload_n 3, 1) := by decide +kernel
theorem dL_law_564 : decode cL_law 564 = .ok (.iconst 2, 1) := by decide +kernel
theorem dL_law_565 : decode cL_law 565 = .ok (.iadd, 1) := by decide +kernel
theorem dL_law_566 : decode cL_law 566 = .ok (.iaload, 1) := by decide +kernel
theorem dL_law_567 : decode cL_law 567 = .ok (.invokevirtual 57, 3) := by decide +kernel
theorem dL_law_570 : decode cL_law 570 = .ok (.aload_n 2, 1) := by decide +kernel
theorem dL_law_571 : decode cL_law 571 = .ok (.aload_n 0, 1) := by decide +kernel
theorem dL_law_572 : decode cL_law 572 = .ok (.iload_n 3, 1) := by decide +kernel
theorem dL_law_573 : decode cL_law 573 = .ok (.iconst 1, 1) := by decide +kernel
theorem dL_law_574 : decode cL_law 574 = .ok (.iadd, 1) := by decide +kernel
theorem dL_law_575 : decode cL_law 575 = .ok (.iaload, 1) := by decide +kernel
theorem dL_law_576 : decode cL_law 576 = .ok (.aload_n 0, 1) := by decide +kernel
theorem dL_law_577 : decode cL_law 577 = .ok (.iload_n 3, 1) := by decide +kernel
theorem dL_law_578 : decode cL_law 578 = .ok (.iconst 2, 1) := by decide +kernel
theorem dL_law_579 : decode cL_law 579 = .ok (.iadd, 1) := by decide +kernel
theorem dL_law_580 : decode cL_law 580 = .ok (.iaload, 1) := by decide +kernel
theorem dL_law_581 : decode cL_law 581 = .ok (.invokevirtual 60, 3) := by decide +kernel
theorem dL_law_584 : decode cL_law 584 = .ok (.if_icmp .eq 741, 3) := by decide +kernel
theorem dL_law_587 : decode cL_law 587 = .ok (.iconst 0, 1) := by decide +kernel
theorem dL_law_588 : decode cL_law 588 = .ok (.ireturn, 1) := by decide +kernel
theorem dL_law_589 : decode cL_law 589 = .ok (.aload_n 1, 1) := by decide +kernel
theorem dL_law_590 : decode cL_law 590 = .ok (.aload_n 0, 1) := by decide +kernel
theorem dL_law_591 : decode cL_law 591 = .ok (.iload_n 3, 1) := by decide +kernel
theorem dL_law_592 : decode cL_law 592 = .ok (.iconst 1, 1) := by decide +kernel
theorem dL_law_593 : decode cL_law 593 = .ok (.iadd, 1) := by decide +kernel
theorem dL_law_594 : decode cL_law 594 = .ok (.iaload, 1) := by decide +kernel
theorem dL_law_595 : decode cL_law 595 = .ok (.aload_n 0, 1) := by decide +kernel
theorem dL_law_596 : decode cL_law 596 = .ok (.iload_n 3, 1) := by decide +kernel
theorem dL_law_597 : decode cL_law 597 = .ok (.iconst 2, 1) := by decide +kernel
theorem dL_law_598 : decode cL_law 598 = .ok (.iadd, 1) := by decide +kernel
theorem dL_law_599 : decode cL_law 599 = .ok (.iaload, 1) := by decide +kernel
theorem dL_law_600 : decode cL_law 600 = .ok (.invokevirtual 61, 3) := by decide +kernel
theorem dL_law_603 : decode cL_law 603 = .ok (.aload_n 2, 1) := by decide +kernel
theorem dL_law_604 : decode cL_law 604 = .ok (.aload_n 0, 1) := by decide +kernel
theorem dL_law_605 : decode cL_law 605 = .ok (.iload_n 3, 1) := by decide +kernel
theorem dL_law_606 : decode cL_law 606 = .ok (.iconst 1, 1) := by decide +kernel
theorem dL_law_607 : decode cL_law 607 = .ok (.iadd, 1) := by decide +kernel
theorem dL_law_608 : decode cL_law 608 = .ok (.iaload, 1) := by decide +kernel
theorem dL_law_609 : decode cL_law 609 = .ok (.aload_n 0, 1) := by decide +kernel
theorem dL_law_610 : decode cL_law 610 = .ok (.iload_n 3, 1) := by decide +kernel
theorem dL_law_611 : decode cL_law 611 = .ok (.iconst 2, 1) := by decide +kernel
theorem dL_law_612 : decode cL_law 612 = .ok (.iadd, 1) := by decide +kernel
theorem dL_law_613 : decode cL_law 613 = .ok (.iaload, 1) := by decide +kernel
theorem dL_law_614 : decode cL_law 614 = .ok (.invokevirtual 64, 3) := by decide +kernel
theorem dL_law_617 : decode cL_law 617 = .ok (.if_icmp .eq 708, 3) := by decide +kernel
theorem dL_law_620 : decode cL_law 620 = .ok (.iconst 0, 1) := by decide +kernel
theorem dL_law_621 : decode cL_law 621 = .ok (.ireturn, 1) := by decide +kernel
theorem dL_law_622 : decode cL_law 622 = .ok (.aload_n 1, 1) := by decide +kernel
theorem dL_law_623 : decode cL_law 623 = .ok (.aload_n 0, 1) := by decide +kernel
theorem dL_law_624 : decode cL_law 624 = .ok (.iload_n 3, 1) := by decide +kernel
theorem dL_law_625 : decode cL_law 625 = .ok (.iconst 1, 1) := by decide +kernel
theorem dL_law_626 : decode cL_law 626 = .ok (.iadd, 1) := by decide +kernel
theorem dL_law_627 : decode cL_law 627 = .ok (.iaload, 1) := by decide +kernel
theorem dL_law_628 : decode cL_law 628 = .ok (.aload_n 0, 1) := by decide +kernel
theorem dL_law_629 : decode cL_law 629 = .ok (.iload_n 3, 1) := by decide +kernel
theorem dL_law_630 : decode cL_law 630 = .ok (.iconst 2, 1) := by decide +kernel
theorem dL_law_631 : decode cL_law 631 = .ok (.iadd, 1) := by decide +kernel
theorem dL_law_632 : decode cL_law 632 = .ok (.iaload, 1) := by decide +kernel
theorem dL_law_633 : decode cL_law 633 = .ok (.aload_n 0, 1) := by decide +kernel
theorem dL_law_634 : decode cL_law 634 = .ok (.iload_n 3, 1) := by decide +kernel
theorem dL_law_635 : decode cL_law 635 = .ok (.iconst 3, 1) := by decide +kernel
theorem dL_law_636 : decode cL_law 636 = .ok (.iadd, 1) := by decide +kernel
theorem dL_law_637 : decode cL_law 637 = .ok (.iaload, 1) := by decide +kernel
theorem dL_law_638 : decode cL_law 638 = .ok (.invokevirtual 65, 3) := by decide +kernel
theorem dL_law_641 : decode cL_law 641 = .ok (.aload_n 2, 1) := by decide +kernel
theorem dL_law_642 : decode cL_law 642 = .ok (.aload_n 0, 1) := by decide +kernel
theorem dL_law_643 : decode cL_law 643 = .ok (.iload_n 3, 1) := by decide +kernel
theorem dL_law_644 : decode cL_law 644 = .ok (.iconst 1, 1) := by decide +kernel
theorem dL_law_645 : decode cL_law 645 = .ok (.iadd, 1) := by decide +kernel
theorem dL_law_646 : decode cL_law 646 = .ok (.iaload, 1) := by decide +kernel
theorem dL_law_647 : decode cL_law 647 = .ok (.aload_n 0, 1) := by decide +kernel
theorem dL_law_648 : decode cL_law 648 = .ok (.iload_n 3, 1) := by decide +kernel
theorem dL_law_649 : decode cL_law 649 = .ok (.iconst 2, 1) := by decide +kernel
theorem dL_law_650 : decode cL_law 650 = .ok (.iadd, 1) := by decide +kernel
theorem dL_law_651 : decode cL_law 651 = .ok (.iaload, 1) := by decide +kernel
theorem dL_law_652 : decode cL_law 652 = .ok (.aload_n 0, 1) := by decide +kernel
theorem dL_law_653 : decode cL_law 653 = .ok (.iload_n 3, 1) := by decide +kernel
theorem dL_law_654 : decode cL_law 654 = .ok (.iconst 3, 1) := by decide +kernel
theorem dL_law_655 : decode cL_law 655 = .ok (.iadd, 1) := by decide +kernel
theorem dL_law_656 : decode cL_law 656 = .ok (.iaload, 1) := by decide +kernel
theorem dL_law_657 : decode cL_law 657 = .ok (.invokevirtual 68, 3) := by decide +kernel
theorem dL_law_660 : decode cL_law 660 = .ok (.if_icmp .eq 665, 3) := by decide +kernel
theorem dL_law_663 : decode cL_law 663 = .ok (.iconst 0, 1) := by decide +kernel
theorem dL_law_664 : decode cL_law 664 = .ok (.ireturn, 1) := by decide +kernel
theorem dL_law_665 : decode cL_law 665 = .ok (.aload_n 1, 1) := by decide +kernel
theorem dL_law_666 : decode cL_law 666 = .ok (.invokevirtual 69, 3) := by decide +kernel
theorem dL_law_669 : decode cL_law 669 = .ok (.aload_n 2, 1) := by decide +kernel
theorem dL_law_670 : decode cL_law 670 = .ok (.invokevirtual 73, 3) := by decide +kernel
theorem dL_law_673 : decode cL_law 673 = .ok (.if_icmp .eq 652, 3) := by decide +kernel
theorem dL_law_676 : decode cL_law 676 = .ok (.iconst 0, 1) := by decide +kernel
theorem dL_law_677 : decode cL_law 677 = .ok (.ireturn, 1) := by decide +kernel
theorem dL_law_678 : decode cL_law 678 = .ok (.aload_n 1, 1) := by decide +kernel
theorem dL_law_679 : decode cL_law 679 = .ok (.aload_n 0, 1) := by decide +kernel
theorem dL_law_680 : decode cL_law 680 = .ok (.iload_n 3, 1) := by decide +kernel
theorem dL_law_681 : decode cL_law 681 = .ok (.iconst 1, 1) := by decide +kernel
theorem dL_law_682 : decode cL_law 682 = .ok (.iadd, 1) := by decide +kernel
theorem dL_law_683 : decode cL_law 683 = .ok (.iaload, 1) := by decide +kernel
theorem dL_law_684 : decode cL_law 684 = .ok (.invokevirtual 74, 3) := by decide +kernel
theorem dL_law_687 : decode cL_law 687 = .ok (.aload_n 2, 1) := by decide +kernel
theorem dL_law_688 : decode cL_law 688 = .ok (.aload_n 0, 1) := by decide +kernel
theorem dL_law_689 : decode cL_law 689 = .ok (.iload_n 3, 1) := by decide +kernel
theorem dL_law_690 : decode cL_law 690 = .ok (.iconst 1, 1) := by decide +kernel
theorem dL_law_691 : decode cL_law 691 = .ok (.iadd, 1) := by decide +kernel
theorem dL_law_692 : decode cL_law 692 = .ok (.iaload, 1) := by decide +kernel
theorem dL_law_693 : decode cL_law 693 = .ok (.invokevirtual 77, 3) := by decide +kernel
theorem dL_law_696 : decode cL_law 696 = .ok (.if_icmp .eq 629, 3) := by decide +kernel
theorem dL_law_699 : decode cL_law 699 = .ok (.iconst 0, 1) := by decide +kernel
theorem dL_law_700 : decode cL_law 700 = .ok (.ireturn, 1) := by decide +kernel
theorem dL_law_701 : decode cL_law 701 = .ok (.aload_n 1, 1) := by decide +kernel
theorem dL_law_702 : decode cL_law 702 = .ok (.invokevirtual 78, 3) := by decide +kernel
theorem dL_law_705 : decode cL_law 705 = .ok (.aload_n 2, 1) := by decide +kernel
theorem dL_law_706 : decode cL_law 706 = .ok (.invokevirtual 81, 3) := by decide +kernel
theorem dL_law_709 : decode cL_law 709 = .ok (.if_icmp .eq 616, 3) := by decide +kernel
theorem dL_law_712 : decode cL_law 712 = .ok (.iconst 0, 1) := by decide +kernel
theorem dL_law_713 : decode cL_law 713 = .ok (.ireturn, 1) := by decide +kernel
theorem dL_law_714 : decode cL_law 714 = .ok (.aload_n 1, 1) := by decide +kernel
theorem dL_law_715 : decode cL_law 715 = .ok (.aload_n 0, 1) := by decide +kernel
theorem dL_law_716 : decode cL_law 716 = .ok (.iload_n 3, 1) := by decide +kernel
theorem dL_law_717 : decode cL_law 717 = .ok (.iconst 1, 1) := by decide +kernel
theorem dL_law_718 : decode cL_law 718 = .ok (.iadd, 1) := by decide +kernel
theorem dL_law_719 : decode cL_law 719 = .ok (.iaload, 1) := by decide +kernel
theorem dL_law_720 : decode cL_law 720 = .ok (.invokevirtual 82, 3) := by decide +kernel
theorem dL_law_723 : decode cL_law 723 = .ok (.aload_n 2, 1) := by decide +kernel
theorem dL_law_724 : decode cL_law 724 = .ok (.aload_n 0, 1) := by decide +kernel
theorem dL_law_725 : decode cL_law 725 = .ok (.iload_n 3, 1) := by decide +kernel
theorem dL_law_726 : decode cL_law 726 = .ok (.iconst 1, 1) := by decide +kernel
theorem dL_law_727 : decode cL_law 727 = .ok (.iadd, 1) := by decide +kernel
theorem dL_law_728 : decode cL_law 728 = .ok (.iaload, 1) := by decide +kernel
theorem dL_law_729 : decode cL_law 729 = .ok (.invokevirtual 85, 3) := by decide +kernel
theorem dL_law_732 : decode cL_law 732 = .ok (.if_icmp .eq 593, 3) := by decide +kernel
theorem dL_law_735 : decode cL_law 735 = .ok (.iconst 0, 1) := by decide +kernel
theorem dL_law_736 : decode cL_law 736 = .ok (.ireturn, 1) := by decide +kernel
theorem dL_law_737 : decode cL_law 737 = .ok (.aload_n 1, 1) := by decide +kernel
theorem dL_law_738 : decode cL_law 738 = .ok (.aload_n 0, 1) := by decide +kernel
theorem dL_law_739 : decode cL_law 739 = .ok (.iload_n 3, 1) := by decide +kernel
theorem dL_law_740 : decode cL_law 740 = .ok (.iconst 1, 1) := by decide +kernel
theorem dL_law_741 : decode cL_law 741 = .ok (.iadd, 1) := by decide +kernel
theorem dL_law_742 : decode cL_law 742 = .ok (.iaload, 1) := by decide +kernel
theorem dL_law_743 : decode cL_law 743 = .ok (.invokevirtual 86, 3) := by decide +kernel
theorem dL_law_746 : decode cL_law 746 = .ok (.aload_n 2, 1) := by decide +kernel
theorem dL_law_747 : decode cL_law 747 = .ok (.aload_n 0, 1) := by decide +kernel
theorem dL_law_748 : decode cL_law 748 = .ok (.iload_n 3, 1) := by decide +kernel
theorem dL_law_749 : decode cL_law 749 = .ok (.iconst 1, 1) := by decide +kernel
theorem dL_law_750 : decode cL_law 750 = .ok (.iadd, 1) := by decide +kernel
theorem dL_law_751 : decode cL_law 751 = .ok (.iaload, 1) := by decide +kernel
theorem dL_law_752 : decode cL_law 752 = .ok (.invokevirtual 89, 3) := by decide +kernel
theorem dL_law_755 : decode cL_law 755 = .ok (.if_icmp .eq 570, 3) := by decide +kernel
theorem dL_law_758 : decode cL_law 758 = .ok (.iconst 0, 1) := by decide +kernel
theorem dL_law_759 : decode cL_law 759 = .ok (.ireturn, 1) := by decide +kernel
theorem dL_law_760 : decode cL_law 760 = .ok (.aload_n 1, 1) := by decide +kernel
theorem dL_law_761 : decode cL_law 761 = .ok (.aload_n 0, 1) := by decide +kernel
theorem dL_law_762 : decode cL_law 762 = .ok (.iload_n 3, 1) := by decide +kernel
theorem dL_law_763 : decode cL_law 763 = .ok (.iconst 1, 1) := by decide +kernel
theorem dL_law_764 : decode cL_law 764 = .ok (.iadd, 1) := by decide +kernel
theorem dL_law_765 : decode cL_law 765 = .ok (.iaload, 1) := by decide +kernel
theorem dL_law_766 : decode cL_law 766 = .ok (.invokevirtual 90, 3) := by decide +kernel
theorem dL_law_769 : decode cL_law 769 = .ok (.aload_n 2, 1) := by decide +kernel
theorem dL_law_770 : decode cL_law 770 = .ok (.aload_n 0, 1) := by decide +kernel
theorem dL_law_771 : decode cL_law 771 = .ok (.iload_n 3, 1) := by decide +kernel
theorem dL_law_772 : decode cL_law 772 = .ok (.iconst 1, 1) := by decide +kernel
theorem dL_law_773 : decode cL_law 773 = .ok (.iadd, 1) := by decide +kernel
theorem dL_law_774 : decode cL_law 774 = .ok (.iaload, 1) := by decide +kernel
theorem dL_law_775 : decode cL_law 775 = .ok (.invokevirtual 93, 3) := by decide +kernel
theorem dL_law_778 : decode cL_law 778 = .ok (.if_icmp .eq 547, 3) := by decide +kernel
theorem dL_law_781 : decode cL_law 781 = .ok (.iconst 0, 1) := by decide +kernel
theorem dL_law_782 : decode cL_law 782 = .ok (.ireturn, 1) := by decide +kernel
theorem dL_law_783 : decode cL_law 783 = .ok (.aload_n 1, 1) := by decide +kernel
theorem dL_law_784 : decode cL_law 784 = .ok (.aload_n 0, 1) := by decide +kernel
theorem dL_law_785 : decode cL_law 785 = .ok (.iload_n 3, 1) := by decide +kernel
theorem dL_law_786 : decode cL_law 786 = .ok (.iconst 1, 1) := by decide +kernel
theorem dL_law_787 : decode cL_law 787 = .ok (.iadd, 1) := by decide +kernel
theorem dL_law_788 : decode cL_law 788 = .ok (.iaload, 1) := by decide +kernel
theorem dL_law_789 : decode cL_law 789 = .ok (.invokevirtual 94, 3) := by decide +kernel
theorem dL_law_792 : decode cL_law 792 = .ok (.aload_n 2, 1) := by decide +kernel
theorem dL_law_793 : decode cL_law 793 = .ok (.aload_n 0, 1) := by decide +kernel
theorem dL_law_794 : decode cL_law 794 = .ok (.iload_n 3, 1) := by decide +kernel
theorem dL_law_795 : decode cL_law 795 = .ok (.iconst 1, 1) := by decide +kernel
theorem dL_law_796 : decode cL_law 796 = .ok (.iadd, 1) := by decide +kernel
theorem dL_law_797 : decode cL_law 797 = .ok (.iaload, 1) := by decide +kernel
theorem dL_law_798 : decode cL_law 798 = .ok (.invokevirtual 97, 3) := by decide +kernel
theorem dL_law_801 : decode cL_law 801 = .ok (.if_icmp .eq 524, 3) := by decide +kernel
theorem dL_law_804 : decode cL_law 804 = .ok (.iconst 0, 1) := by decide +kernel
theorem dL_law_805 : decode cL_law 805 = .ok (.ireturn, 1) := by decide +kernel
theorem dL_law_806 : decode cL_law 806 = .ok (.aload_n 1, 1) := by decide +kernel
theorem dL_law_807 : decode cL_law 807 = .ok (.aload_n 0, 1) := by decide +kernel
theorem dL_law_808 : decode cL_law 808 = .ok (.iload_n 3, 1) := by decide +kernel
theorem dL_law_809 : decode cL_law 809 = .ok (.iconst 1, 1) := by decide +kernel
theorem dL_law_810 : decode cL_law 810 = .ok (.iadd, 1) := by decide +kernel
theorem dL_law_811 : decode cL_law 811 = .ok (.iaload, 1) := by decide +kernel
theorem dL_law_812 : decode cL_law 812 = .ok (.invokevirtual 98, 3) := by decide +kernel
theorem dL_law_815 : decode cL_law 815 = .ok (.aload_n 2, 1) := by decide +kernel
theorem dL_law_816 : decode cL_law 816 = .ok (.aload_n 0, 1) := by decide +kernel
theorem dL_law_817 : decode cL_law 817 = .ok (.iload_n 3, 1) := by decide +kernel
theorem dL_law_818 : decode cL_law 818 = .ok (.iconst 1, 1) := by decide +kernel
theorem dL_law_819 : decode cL_law 819 = .ok (.iadd, 1) := by decide +kernel
theorem dL_law_820 : decode cL_law 820 = .ok (.iaload, 1) := by decide +kernel
theorem dL_law_821 : decode cL_law 821 = .ok (.invokevirtual 101, 3) := by decide +kernel
theorem dL_law_824 : decode cL_law 824 = .ok (.if_icmp .eq 501, 3) := by decide +kernel
theorem dL_law_827 : decode cL_law 827 = .ok (.iconst 0, 1) := by decide +kernel
theorem dL_law_828 : decode cL_law 828 = .ok (.ireturn, 1) := by decide +kernel
theorem dL_law_829 : decode cL_law 829 = .ok (.aload_n 1, 1) := by decide +kernel
theorem dL_law_830 : decode cL_law 830 = .ok (.invokevirtual 102, 3) := by decide +kernel
theorem dL_law_833 : decode cL_law 833 = .ok (.aload_n 2, 1) := by decide +kernel
theorem dL_law_834 : decode cL_law 834 = .ok (.invokevirtual 105, 3) := by decide +kernel
theorem dL_law_837 : decode cL_law 837 = .ok (.if_icmp .eq 488, 3) := by decide +kernel
theorem dL_law_840 : decode cL_law 840 = .ok (.iconst 0, 1) := by decide +kernel
theorem dL_law_841 : decode cL_law 841 = .ok (.ireturn, 1) := by decide +kernel
theorem dL_law_842 : decode cL_law 842 = .ok (.aload_n 1, 1) := by decide +kernel
theorem dL_law_843 : decode cL_law 843 = .ok (.aload_n 0, 1) := by decide +kernel
theorem dL_law_844 : decode cL_law 844 = .ok (.iload_n 3, 1) := by decide +kernel
theorem dL_law_845 : decode cL_law 845 = .ok (.iconst 1, 1) := by decide +kernel
theorem dL_law_846 : decode cL_law 846 = .ok (.iadd, 1) := by decide +kernel
theorem dL_law_847 : decode cL_law 847 = .ok (.iaload, 1) := by decide +kernel
theorem dL_law_848 : decode cL_law 848 = .ok (.aload_n 0, 1) := by decide +kernel
theorem dL_law_849 : decode cL_law 849 = .ok (.iload_n 3, 1) := by decide +kernel
theorem dL_law_850 : decode cL_law 850 = .ok (.iconst 2, 1) := by decide +kernel
theorem dL_law_851 : decode cL_law 851 = .ok (.iadd, 1) := by decide +kernel
theorem dL_law_852 : decode cL_law 852 = .ok (.iaload, 1) := by decide +kernel
theorem dL_law_853 : decode cL_law 853 = .ok (.invokevirtual 106, 3) := by decide +kernel
theorem dL_law_856 : decode cL_law 856 = .ok (.aload_n 2, 1) := by decide +kernel
theorem dL_law_857 : decode cL_law 857 = .ok (.aload_n 0, 1) := by decide +kernel
theorem dL_law_858 : decode cL_law 858 = .ok (.iload_n 3, 1) := by decide +kernel
theorem dL_law_859 : decode cL_law 859 = .ok (.iconst 1, 1) := by decide +kernel
theorem dL_law_860 : decode cL_law 860 = .ok (.iadd, 1) := by decide +kernel
theorem dL_law_861 : decode cL_law 861 = .ok (.iaload, 1) := by decide +kernel
theorem dL_law_862 : decode cL_law 862 = .ok (.aload_n 0, 1) := by decide +kernel
theorem dL_law_863 : decode cL_law 863 = .ok (.iload_n 3, 1) := by decide +kernel
theorem dL_law_864 : decode cL_law 864 = .ok (.iconst 2, 1) := by decide +kernel
theorem dL_law_865 : decode cL_law 865 = .ok (.iadd, 1) := by decide +kernel
theorem dL_law_866 : decode cL_law 866 = .ok (.iaload, 1) := by decide +kernel
theorem dL_law_867 : decode cL_law 867 = .ok (.invokevirtual 109, 3) := by decide +kernel
theorem dL_law_870 : decode cL_law 870 = .ok (.if_icmp .eq 455, 3) := by decide +kernel
theorem dL_law_873 : decode cL_law 873 = .ok (.iconst 0, 1) := by decide +kernel
theorem dL_law_874 : decode cL_law 874 = .ok (.ireturn, 1) := by decide +kernel
theorem dL_law_875 : decode cL_law 875 = .ok (.aload_n 1, 1) := by decide +kernel
theorem dL_law_876 : decode cL_law 876 = .ok (.aload_n 0, 1) := by decide +kernel
theorem dL_law_877 : decode cL_law 877 = .ok (.iload_n 3, 1) := by decide +kernel
theorem dL_law_878 : decode cL_law 878 = .ok (.iconst 1, 1) := by decide +kernel
theorem dL_law_879 : decode cL_law 879 = .ok (.iadd, 1) := by decide +kernel
theorem dL_law_880 : decode cL_law 880 = .ok (.iaload, 1) := by decide +kernel
theorem dL_law_881 : decode cL_law 881 = .ok (.invokevirtual 110, 3) := by decide +kernel
theorem dL_law_884 : decode cL_law 884 = .ok (.aload_n 2, 1) := by decide +kernel
theorem dL_law_885 : decode cL_law 885 = .ok (.aload_n 0, 1) := by decide +kernel
theorem dL_law_886 : decode cL_law 886 = .ok (.iload_n 3, 1) := by decide +kernel
theorem dL_law_887 : decode cL_law 887 = .ok (.iconst 1, 1) := by decide +kernel
theorem dL_law_888 : decode cL_law 888 = .ok (.iadd, 1) := by decide +kernel
theorem dL_law_889 : decode cL_law 889 = .ok (.iaload, 1) := by decide +kernel
theorem dL_law_890 : decode cL_law 890 = .ok (.invokevirtual 113, 3) := by decide +kernel
theorem dL_law_893 : decode cL_law 893 = .ok (.if_icmp .eq 432, 3) := by decide +kernel
theorem dL_law_896 : decode cL_law 896 = .ok (.iconst 0, 1) := by decide +kernel
theorem dL_law_897 : decode cL_law 897 = .ok (.ireturn, 1) := by decide +kernel
theorem dL_law_898 : decode cL_law 898 = .ok (.aload_n 1, 1) := by decide +kernel
theorem dL_law_899 : decode cL_law 899 = .ok (.aload_n 0, 1) := by decide +kernel
theorem dL_law_900 : decode cL_law 900 = .ok (.iload_n 3, 1) := by decide +kernel
theorem dL_law_901 : decode cL_law 901 = .ok (.iconst 1, 1) := by decide +kernel
theorem dL_law_902 : decode cL_law 902 = .ok (.iadd, 1) := by decide +kernel
theorem dL_law_903 : decode cL_law 903 = .ok (.iaload, 1) := by decide +kernel
theorem dL_law_904 : decode cL_law 904 = .ok (.aload_n 0, 1) := by decide +kernel
theorem dL_law_905 : decode cL_law 905 = .ok (.iload_n 3, 1) := by decide +kernel
theorem dL_law_906 : decode cL_law 906 = .ok (.iconst 2, 1) := by decide +kernel
theorem dL_law_907 : decode cL_law 907 = .ok (.iadd, 1) := by decide +kernel
theorem dL_law_908 : decode cL_law 908 = .ok (.iaload, 1) := by decide +kernel
theorem dL_law_909 : decode cL_law 909 = .ok (.invokevirtual 114, 3) := by decide +kernel
theorem dL_law_912 : decode cL_law 912 = .ok (.aload_n 2, 1) := by decide +kernel
theorem dL_law_913 : decode cL_law 913 = .ok (.aload_n 0, 1) := by decide +kernel
theorem dL_law_914 : decode cL_law 914 = .ok (.iload_n 3, 1) := by decide +kernel
theorem dL_law_915 : decode cL_law 915 = .ok (.iconst 1, 1) := by decide +kernel
theorem dL_law_916 : decode cL_law 916 = .ok (.iadd, 1) := by decide +kernel
theorem dL_law_917 : decode cL_law 917 = .ok (.iaload, 1) := by decide +kernel
theorem dL_law_918 : decode cL_law 918 = .ok (.aload_n 0, 1) := by decide +kernel
theorem dL_law_919 : decode cL_law 919 = .ok (.iload_n 3, 1) := by decide +kernel
theorem dL_law_920 : decode cL_law 920 = .ok (.iconst 2, 1) := by decide +kernel
theorem dL_law_921 : decode cL_law 921 = .ok (.iadd, 1) := by decide +kernel
theorem dL_law_922 : decode cL_law 922 = .ok (.iaload, 1) := by decide +kernel
theorem dL_law_923 : decode cL_law 923 = .ok (.invokevirtual 117, 3) := by decide +kernel
theorem dL_law_926 : decode cL_law 926 = .ok (.if_icmp .eq 399, 3) := by decide +kernel
theorem dL_law_929 : decode cL_law 929 = .ok (.iconst 0, 1) := by decide +kernel
theorem dL_law_930 : decode cL_law 930 = .ok (.ireturn, 1) := by decide +kernel
theorem dL_law_931 : decode cL_law 931 = .ok (.aload_n 1, 1) := by decide +kernel
theorem dL_law_932 : decode cL_law 932 = .ok (.aload_n 0, 1) := by decide +kernel
theorem dL_law_933 : decode cL_law 933 = .ok (.iload_n 3, 1) := by decide +kernel
theorem dL_law_934 : decode cL_law 934 = .ok (.iconst 1, 1) := by decide +kernel
theorem dL_law_935 : decode cL_law 935 = .ok (.iadd, 1) := by decide +kernel
theorem dL_law_936 : decode cL_law 936 = .ok (.iaload, 1) := by decide +kernel
theorem dL_law_937 : decode cL_law 937 = .ok (.aload_n 0, 1) := by decide +kernel
theorem dL_law_938 : decode cL_law 938 = .ok (.iload_n 3, 1) := by decide +kernel
theorem dL_law_939 : decode cL_law 939 = .ok (.iconst 2, 1) := by decide +kernel
theorem dL_law_940 : decode cL_law 940 = .ok (.iadd, 1) := by decide +kernel
theorem dL_law_941 : decode cL_law 941 = .ok (.iaload, 1) := by decide +kernel
theorem dL_law_942 : decode cL_law 942 = .ok (.invokevirtual 118, 3) := by decide +kernel
theorem dL_law_945 : decode cL_law 945 = .ok (.aload_n 2, 1) := by decide +kernel
theorem dL_law_946 : decode cL_law 946 = .ok (.aload_n 0, 1) := by decide +kernel
theorem dL_law_947 : decode cL_law 947 = .ok (.iload_n 3, 1) := by decide +kernel
theorem dL_law_948 : decode cL_law 948 = .ok (.iconst 1, 1) := by decide +kernel
theorem dL_law_949 : decode cL_law 949 = .ok (.iadd, 1) := by decide +kernel
theorem dL_law_950 : decode cL_law 950 = .ok (.iaload, 1) := by decide +kernel
theorem dL_law_951 : decode cL_law 951 = .ok (.aload_n 0, 1) := by decide +kernel
theorem dL_law_952 : decode cL_law 952 = .ok (.iload_n 3, 1) := by decide +kernel
theorem dL_law_953 : decode cL_law 953 = .ok (.iconst 2, 1) := by decide +kernel
theorem dL_law_954 : decode cL_law 954 = .ok (.iadd, 1) := by decide +kernel
theorem dL_law_955 : decode cL_law 955 = .ok (.iaload, 1) := by decide +kernel
theorem dL_law_956 : decode cL_law 956 = .ok (.invokevirtual 121, 3) := by decide +kernel
theorem dL_law_959 : decode cL_law 959 = .ok (.if_icmp .eq 366, 3) := by decide +kernel
theorem dL_law_962 : decode cL_law 962 = .ok (.iconst 0, 1) := by decide +kernel
theorem dL_law_963 : decode cL_law 963 = .ok (.ireturn, 1) := by decide +kernel
theorem dL_law_964 : decode cL_law 964 = .ok (.aload_n 1, 1) := by decide +kernel
theorem dL_law_965 : decode cL_law 965 = .ok (.aload_n 0, 1) := by decide +kernel
theorem dL_law_966 : decode cL_law 966 = .ok (.iload_n 3, 1) := by decide +kernel
theorem dL_law_967 : decode cL_law 967 = .ok (.iconst 1, 1) := by decide +kernel
theorem dL_law_968 : decode cL_law 968 = .ok (.iadd, 1) := by decide +kernel
theorem dL_law_969 : decode cL_law 969 = .ok (.iaload, 1) := by decide +kernel
theorem dL_law_970 : decode cL_law 970 = .ok (.invokevirtual 122, 3) := by decide +kernel
theorem dL_law_973 : decode cL_law 973 = .ok (.aload_n 2, 1) := by decide +kernel
theorem dL_law_974 : decode cL_law 974 = .ok (.aload_n 0, 1) := by decide +kernel
theorem dL_law_975 : decode cL_law 975 = .ok (.iload_n 3, 1) := by decide +kernel
theorem dL_law_976 : decode cL_law 976 = .ok (.iconst 1, 1) := by decide +kernel
theorem dL_law_977 : decode cL_law 977 = .ok (.iadd, 1) := by decide +kernel
theorem dL_law_978 : decode cL_law 978 = .ok (.iaload, 1) := by decide +kernel
theorem dL_law_979 : decode cL_law 979 = .ok (.invokevirtual 125, 3) := by decide +kernel
theorem dL_law_982 : decode cL_law 982 = .ok (.if_icmp .eq 343, 3) := by decide +kernel
theorem dL_law_985 : decode cL_law 985 = .ok (.iconst 0, 1) := by decide +kernel
theorem dL_law_986 : decode cL_law 986 = .ok (.ireturn, 1) := by decide +kernel
theorem dL_law_987 : decode cL_law 987 = .ok (.aload_n 1, 1) := by decide +kernel
theorem dL_law_988 : decode cL_law 988 = .ok (.aload_n 0, 1) := by decide +kernel
theorem dL_law_989 : decode cL_law 989 = .ok (.iload_n 3, 1) := by decide +kernel
theorem dL_law_990 : decode cL_law 990 = .ok (.iconst 1, 1) := by decide +kernel
theorem dL_law_991 : decode cL_law 991 = .ok (.iadd, 1) := by decide +kernel
theorem dL_law_992 : decode cL_law 992 = .ok (.iaload, 1) := by decide +kernel
theorem dL_law_993 : decode cL_law 993 = .ok (.invokevirtual 126, 3) := by decide +kernel
theorem dL_law_996 : decode cL_law 996 = .ok (.aload_n 2, 1) := by decide +kernel
theorem dL_law_997 : decode cL_law 997 = .ok (.aload_n 0, 1) := by decide +kernel
theorem dL_law_998 : decode cL_law 998 = .ok (.iload_n 3, 1) := by decide +kernel
theorem dL_law_999 : decode cL_law 999 = .ok (.iconst 1, 1) := by decide +kernel
theorem dL_law_1000 : decode cL_law 1000 = .ok (.iadd, 1) := by decide +kernel
theorem dL_law_1001 : decode cL_law 1001 = .ok (.iaload, 1) := by decide +kernel
theorem dL_law_1002 : decode cL_law 1002 = .ok (.invokevirtual 129, 3) := by decide +kernel
theorem dL_law_1005 : decode cL_law 1005 = .ok (.if_icmp .eq 320, 3) := by decide +kernel
theorem dL_law_1008 : decode cL_law 1008 = .ok (.iconst 0, 1) := by decide +kernel
theorem dL_law_1009 : decode cL_law 1009 = .ok (.ireturn, 1) := by decide +kernel
theorem dL_law_1010 : decode cL_law 1010 = .ok (.aload_n 1, 1) := by decide +kernel
theorem dL_law_1011 : decode cL_law 1011 = .ok (.aload_n 0, 1) := by decide +kernel
theorem dL_law_1012 : decode cL_law 1012 = .ok (.iload_n 3, 1) := by decide +kernel
theorem dL_law_1013 : decode cL_law 1013 = .ok (.iconst 1, 1) := by decide +kernel
theorem dL_law_1014 : decode cL_law 1014 = .ok (.iadd, 1) := by decide +kernel
theorem dL_law_1015 : decode cL_law 1015 = .ok (.iaload, 1) := by decide +kernel
theorem dL_law_1016 : decode cL_law 1016 = .ok (.aload_n 0, 1) := by decide +kernel
theorem dL_law_1017 : decode cL_law 1017 = .ok (.iload_n 3, 1) := by decide +kernel
theorem dL_law_1018 : decode cL_law 1018 = .ok (.iconst 2, 1) := by decide +kernel
theorem dL_law_1019 : decode cL_law 1019 = .ok (.iadd, 1) := by decide +kernel
theorem dL_law_1020 : decode cL_law 1020 = .ok (.iaload, 1) := by decide +kernel
theorem dL_law_1021 : decode cL_law 1021 = .ok (.invokevirtual 130, 3) := by decide +kernel
theorem dL_law_1024 : decode cL_law 1024 = .ok (.aload_n 2, 1) := by decide +kernel
theorem dL_law_1025 : decode cL_law 1025 = .ok (.aload_n 0, 1) := by decide +kernel
theorem dL_law_1026 : decode cL_law 1026 = .ok (.iload_n 3, 1) := by decide +kernel
theorem dL_law_1027 : decode cL_law 1027 = .ok (.iconst 1, 1) := by decide +kernel
theorem dL_law_1028 : decode cL_law 1028 = .ok (.iadd, 1) := by decide +kernel
theorem dL_law_1029 : decode cL_law 1029 = .ok (.iaload, 1) := by decide +kernel
theorem dL_law_1030 : decode cL_law 1030 = .ok (.aload_n 0, 1) := by decide +kernel
theorem dL_law_1031 : decode cL_law 1031 = .ok (.iload_n 3, 1) := by decide +kernel
theorem dL_law_1032 : decode cL_law 1032 = .ok (.iconst 2, 1) := by decide +kernel
theorem dL_law_1033 : decode cL_law 1033 = .ok (.iadd, 1) := by decide +kernel
theorem dL_law_1034 : decode cL_law 1034 = .ok (.iaload, 1) := by decide +kernel
theorem dL_law_1035 : decode cL_law 1035 = .ok (.invokevirtual 133, 3) := by decide +kernel
theorem dL_law_1038 : decode cL_law 1038 = .ok (.if_icmp .eq 287, 3) := by decide +kernel
theorem dL_law_1041 : decode cL_law 1041 = .ok (.iconst 0, 1) := by decide +kernel
theorem dL_law_1042 : decode cL_law 1042 = .ok (.ireturn, 1) := by decide +kernel
theorem dL_law_1043 : decode cL_law 1043 = .ok (.aload_n 1, 1) := by decide +kernel
theorem dL_law_1044 : decode cL_law 1044 = .ok (.aload_n 0, 1) := by decide +kernel
theorem dL_law_1045 : decode cL_law 1045 = .ok (.iload_n 3, 1) := by decide +kernel
theorem dL_law_1046 : decode cL_law 1046 = .ok (.iconst 1, 1) := by decide +kernel
theorem dL_law_1047 : decode cL_law 1047 = .ok (.iadd, 1) := by decide +kernel
theorem dL_law_1048 : decode cL_law 1048 = .ok (.iaload, 1) := by decide +kernel
theorem dL_law_1049 : decode cL_law 1049 = .ok (.aload_n 0, 1) := by decide +kernel
theorem dL_law_1050 : decode cL_law 1050 = .ok (.iload_n 3, 1) := by decide +kernel
theorem dL_law_1051 : decode cL_law 1051 = .ok (.iconst 2, 1) := by decide +kernel
theorem dL_law_1052 : decode cL_law 1052 = .ok (.iadd, 1) := by decide +kernel
theorem dL_law_1053 : decode cL_law 1053 = .ok (.iaload, 1) := by decide +kernel
theorem dL_law_1054 : decode cL_law 1054 = .ok (.invokevirtual 134, 3) := by decide +kernel
theorem dL_law_1057 : decode cL_law 1057 = .ok (.aload_n 2, 1) := by decide +kernel
theorem dL_law_1058 : decode cL_law 1058 = .ok (.aload_n 0, 1) := by decide +kernel
theorem dL_law_1059 : decode cL_law 1059 = .ok (.iload_n 3, 1) := by decide +kernel
theorem dL_law_1060 : decode cL_law 1060 = .ok (.iconst 1, 1) := by decide +kernel
theorem dL_law_1061 : decode cL_law 1061 = .ok (.iadd, 1) := by decide +kernel
theorem dL_law_1062 : decode cL_law 1062 = .ok (.iaload, 1) := by decide +kernel
theorem dL_law_1063 : decode cL_law 1063 = .ok (.aload_n 0, 1) := by decide +kernel
theorem dL_law_1064 : decode cL_law 1064 = .ok (.iload_n 3, 1) := by decide +kernel
theorem dL_law_1065 : decode cL_law 1065 = .ok (.iconst 2, 1) := by decide +kernel
theorem dL_law_1066 : decode cL_law 1066 = .ok (.iadd, 1) := by decide +kernel
theorem dL_law_1067 : decode cL_law 1067 = .ok (.iaload, 1) := by decide +kernel
theorem dL_law_1068 : decode cL_law 1068 = .ok (.invokevirtual 137, 3) := by decide +kernel
theorem dL_law_1071 : decode cL_law 1071 = .ok (.if_icmp .eq 254, 3) := by decide +kernel
theorem dL_law_1074 : decode cL_law 1074 = .ok (.iconst 0, 1) := by decide +kernel
theorem dL_law_1075 : decode cL_law 1075 = .ok (.ireturn, 1) := by decide +kernel
theorem dL_law_1076 : decode cL_law 1076 = .ok (.aload_n 1, 1) := by decide +kernel
theorem dL_law_1077 : decode cL_law 1077 = .ok (.aload_n 0, 1) := by decide +kernel
theorem dL_law_1078 : decode cL_law 1078 = .ok (.iload_n 3, 1) := by decide +kernel
theorem dL_law_1079 : decode cL_law 1079 = .ok (.iconst 1, 1) := by decide +kernel
theorem dL_law_1080 : decode cL_law 1080 = .ok (.iadd, 1) := by decide +kernel
theorem dL_law_1081 : decode cL_law 1081 = .ok (.iaload, 1) := by decide +kernel
theorem dL_law_1082 : decode cL_law 1082 = .ok (.invokevirtual 138, 3) := by decide +kernel
theorem dL_law_1085 : decode cL_law 1085 = .ok (.aload_n 2, 1) := by decide +kernel
theorem dL_law_1086 : decode cL_law 1086 = .ok (.aload_n 0, 1) := by decide +kernel
theorem dL_law_1087 : decode cL_law 1087 = .ok (.iload_n 3, 1) := by decide +kernel
theorem dL_law_1088 : decode cL_law 1088 = .ok (.iconst 1, 1) := by decide +kernel
theorem dL_law_1089 : decode cL_law 1089 = .ok (.iadd, 1) := by decide +kernel
theorem dL_law_1090 : decode cL_law 1090 = .ok (.iaload, 1) := by decide +kernel
theorem dL_law_1091 : decode cL_law 1091 = .ok (.invokevirtual 141, 3) := by decide +kernel
theorem dL_law_1094 : decode cL_law 1094 = .ok (.if_icmp .eq 231, 3) := by decide +kernel
theorem dL_law_1097 : decode cL_law 1097 = .ok (.iconst 0, 1) := by decide +kernel
theorem dL_law_1098 : decode cL_law 1098 = .ok (.ireturn, 1) := by decide +kernel
theorem dL_law_1099 : decode cL_law 1099 = .ok (.aload_n 1, 1) := by decide +kernel
theorem dL_law_1100 : decode cL_law 1100 = .ok (.aload_n 0, 1) := by decide +kernel
theorem dL_law_1101 : decode cL_law 1101 = .ok (.iload_n 3, 1) := by decide +kernel
theorem dL_law_1102 : decode cL_law 1102 = .ok (.iconst 1, 1) := by decide +kernel
theorem dL_law_1103 : decode cL_law 1103 = .ok (.iadd, 1) := by decide +kernel
theorem dL_law_1104 : decode cL_law 1104 = .ok (.iaload, 1) := by decide +kernel
theorem dL_law_1105 : decode cL_law 1105 = .ok (.invokevirtual 142, 3) := by decide +kernel
theorem dL_law_1108 : decode cL_law 1108 = .ok (.aload_n 2, 1) := by decide +kernel
theorem dL_law_1109 : decode cL_law 1109 = .ok (.aload_n 0, 1) := by decide +kernel
theorem dL_law_1110 : decode cL_law 1110 = .ok (.iload_n 3, 1) := by decide +kernel
theorem dL_law_1111 : decode cL_law 1111 = .ok (.iconst 1, 1) := by decide +kernel
theorem dL_law_1112 : decode cL_law 1112 = .ok (.iadd, 1) := by decide +kernel
theorem dL_law_1113 : decode cL_law 1113 = .ok (.iaload, 1) := by decide +kernel
theorem dL_law_1114 : decode cL_law 1114 = .ok (.invokevirtual 145, 3) := by decide +kernel
theorem dL_law_1117 : decode cL_law 1117 = .ok (.if_icmp .eq 208, 3) := by decide +kernel
theorem dL_law_1120 : decode cL_law 1120 = .ok (.iconst 0, 1) := by decide +kernel
theorem dL_law_1121 : decode cL_law 1121 = .ok (.ireturn, 1) := by decide +kernel
theorem dL_law_1122 : decode cL_law 1122 = .ok (.aload_n 1, 1) := by decide +kernel
theorem dL_law_1123 : decode cL_law 1123 = .ok (.aload_n 0, 1) := by decide +kernel
theorem dL_law_1124 : decode cL_law 1124 = .ok (.iload_n 3, 1) := by decide +kernel
theorem dL_law_1125 : decode cL_law 1125 = .ok (.iconst 1, 1) := by decide +kernel
theorem dL_law_1126 : decode cL_law 1126 = .ok (.iadd, 1) := by decide +kernel
theorem dL_law_1127 : decode cL_law 1127 = .ok (.iaload, 1) := by decide +kernel
theorem dL_law_1128 : decode cL_law 1128 = .ok (.aload_n 0, 1) := by decide +kernel
theorem dL_law_1129 : decode cL_law 1129 = .ok (.iload_n 3, 1) := by decide +kernel
theorem dL_law_1130 : decode cL_law 1130 = .ok (.iconst 2, 1) := by decide +kernel
theorem dL_law_1131 : decode cL_law 1131 = .ok (.iadd, 1) := by decide +kernel
theorem dL_law_1132 : decode cL_law 1132 = .ok (.iaload, 1) := by decide +kernel
theorem dL_law_1133 : decode cL_law 1133 = .ok (.invokevirtual 146, 3) := by decide +kernel
theorem dL_law_1136 : decode cL_law 1136 = .ok (.aload_n 2, 1) := by decide +kernel
theorem dL_law_1137 : decode cL_law 1137 = .ok (.aload_n 0, 1) := by decide +kernel
theorem dL_law_1138 : decode cL_law 1138 = .ok (.iload_n 3, 1) := by decide +kernel
theorem dL_law_1139 : decode cL_law 1139 = .ok (.iconst 1, 1) := by decide +kernel
theorem dL_law_1140 : decode cL_law 1140 = .ok (.iadd, 1) := by decide +kernel
theorem dL_law_1141 : decode cL_law 1141 = .ok (.iaload, 1) := by decide +kernel
theorem dL_law_1142 : decode cL_law 1142 = .ok (.aload_n 0, 1) := by decide +kernel
theorem dL_law_1143 : decode cL_law 1143 = .ok (.iload_n 3, 1) := by decide +kernel
theorem dL_law_1144 : decode cL_law 1144 = .ok (.iconst 2, 1) := by decide +kernel
theorem dL_law_1145 : decode cL_law 1145 = .ok (.iadd, 1) := by decide +kernel
theorem dL_law_1146 : decode cL_law 1146 = .ok (.iaload, 1) := by decide +kernel
theorem dL_law_1147 : decode cL_law 1147 = .ok (.invokevirtual 149, 3) := by decide +kernel
theorem dL_law_1150 : decode cL_law 1150 = .ok (.if_icmp .eq 175, 3) := by decide +kernel
theorem dL_law_1153 : decode cL_law 1153 = .ok (.iconst 0, 1) := by decide +kernel
theorem dL_law_1154 : decode cL_law 1154 = .ok (.ireturn, 1) := by decide +kernel
theorem dL_law_1155 : decode cL_law 1155 = .ok (.aload_n 1, 1) := by decide +kernel
theorem dL_law_1156 : decode cL_law 1156 = .ok (.aload_n 0, 1) := by decide +kernel
theorem dL_law_1157 : decode cL_law 1157 = .ok (.iload_n 3, 1) := by decide +kernel
theorem dL_law_1158 : decode cL_law 1158 = .ok (.iconst 1, 1) := by decide +kernel
theorem dL_law_1159 : decode cL_law 1159 = .ok (.iadd, 1) := by decide +kernel
theorem dL_law_1160 : decode cL_law 1160 = .ok (.iaload, 1) := by decide +kernel
theorem dL_law_1161 : decode cL_law 1161 = .ok (.invokevirtual 150, 3) := by decide +kernel
theorem dL_law_1164 : decode cL_law 1164 = .ok (.aload_n 2, 1) := by decide +kernel
theorem dL_law_1165 : decode cL_law 1165 = .ok (.aload_n 0, 1) := by decide +kernel
theorem dL_law_1166 : decode cL_law 1166 = .ok (.iload_n 3, 1) := by decide +kernel
theorem dL_law_1167 : decode cL_law 1167 = .ok (.iconst 1, 1) := by decide +kernel
theorem dL_law_1168 : decode cL_law 1168 = .ok (.iadd, 1) := by decide +kernel
theorem dL_law_1169 : decode cL_law 1169 = .ok (.iaload, 1) := by decide +kernel
theorem dL_law_1170 : decode cL_law 1170 = .ok (.invokevirtual 153, 3) := by decide +kernel
theorem dL_law_1173 : decode cL_law 1173 = .ok (.if_icmp .eq 152, 3) := by decide +kernel
theorem dL_law_1176 : decode cL_law 1176 = .ok (.iconst 0, 1) := by decide +kernel
theorem dL_law_1177 : decode cL_law 1177 = .ok (.ireturn, 1) := by decide +kernel
theorem dL_law_1178 : decode cL_law 1178 = .ok (.aload_n 1, 1) := by decide +kernel
theorem dL_law_1179 : decode cL_law 1179 = .ok (.aload_n 0, 1) := by decide +kernel
theorem dL_law_1180 : decode cL_law 1180 = .ok (.iload_n 3, 1) := by decide +kernel
theorem dL_law_1181 : decode cL_law 1181 = .ok (.iconst 1, 1) := by decide +kernel
theorem dL_law_1182 : decode cL_law 1182 = .ok (.iadd, 1) := by decide +kernel
theorem dL_law_1183 : decode cL_law 1183 = .ok (.iaload, 1) := by decide +kernel
theorem dL_law_1184 : decode cL_law 1184 = .ok (.aload_n 0, 1) := by decide +kernel
theorem dL_law_1185 : decode cL_law 1185 = .ok (.iload_n 3, 1) := by decide +kernel
theorem dL_law_1186 : decode cL_law 1186 = .ok (.iconst 2, 1) := by decide +kernel
theorem dL_law_1187 : decode cL_law 1187 = .ok (.iadd, 1) := by decide +kernel
theorem dL_law_1188 : decode cL_law 1188 = .ok (.iaload, 1) := by decide +kernel
theorem dL_law_1189 : decode cL_law 1189 = .ok (.invokevirtual 154, 3) := by decide +kernel
theorem dL_law_1192 : decode cL_law 1192 = .ok (.aload_n 2, 1) := by decide +kernel
theorem dL_law_1193 : decode cL_law 1193 = .ok (.aload_n 0, 1) := by decide +kernel
theorem dL_law_1194 : decode cL_law 1194 = .ok (.iload_n 3, 1) := by decide +kernel
theorem dL_law_1195 : decode cL_law 1195 = .ok (.iconst 1, 1) := by decide +kernel
theorem dL_law_1196 : decode cL_law 1196 = .ok (.iadd, 1) := by decide +kernel
theorem dL_law_1197 : decode cL_law 1197 = .ok (.iaload, 1) := by decide +kernel
theorem dL_law_1198 : decode cL_law 1198 = .ok (.aload_n 0, 1) := by decide +kernel
theorem dL_law_1199 : decode cL_law 1199 = .ok (.iload_n 3, 1) := by decide +kernel
theorem dL_law_1200 : decode cL_law 1200 = .ok (.iconst 2, 1) := by decide +kernel
theorem dL_law_1201 : decode cL_law 1201 = .ok (.iadd, 1) := by decide +kernel
theorem dL_law_1202 : decode cL_law 1202 = .ok (.iaload, 1) := by decide +kernel
theorem dL_law_1203 : decode cL_law 1203 = .ok (.invokevirtual 157, 3) := by decide +kernel
theorem dL_law_1206 : decode cL_law 1206 = .ok (.if_icmp .eq 119, 3) := by decide +kernel
theorem dL_law_1209 : decode cL_law 1209 = .ok (.iconst 0, 1) := by decide +kernel
theorem dL_law_1210 : decode cL_law 1210 = .ok (.ireturn, 1) := by decide +kernel
theorem dL_law_1211 : decode cL_law 1211 = .ok (.aload_n 1, 1) := by decide +kernel
theorem dL_law_1212 : decode cL_law 1212 = .ok (.invokevirtual 158, 3) := by decide +kernel
theorem dL_law_1215 : decode cL_law 1215 = .ok (.aload_n 2, 1) := by decide +kernel
theorem dL_law_1216 : decode cL_law 1216 = .ok (.invokevirtual 161, 3) := by decide +kernel
theorem dL_law_1219 : decode cL_law 1219 = .ok (.if_icmp .eq 106, 3) := by decide +kernel
theorem dL_law_1222 : decode cL_law 1222 = .ok (.iconst 0, 1) := by decide +kernel
theorem dL_law_1223 : decode cL_law 1223 = .ok (.ireturn, 1) := by decide +kernel
theorem dL_law_1224 : decode cL_law 1224 = .ok (.aload_n 1, 1) := by decide +kernel
theorem dL_law_1225 : decode cL_law 1225 = .ok (.invokevirtual 162, 3) := by decide +kernel
theorem dL_law_1228 : decode cL_law 1228 = .ok (.aload_n 2, 1) := by decide +kernel
theorem dL_law_1229 : decode cL_law 1229 = .ok (.invokevirtual 166, 3) := by decide +kernel
theorem dL_law_1232 : decode cL_law 1232 = .ok (.lcmp, 1) := by decide +kernel
theorem dL_law_1233 : decode cL_law 1233 = .ok (.ifCond .eq 92, 3) := by decide +kernel
theorem dL_law_1236 : decode cL_law 1236 = .ok (.iconst 0, 1) := by decide +kernel
theorem dL_law_1237 : decode cL_law 1237 = .ok (.ireturn, 1) := by decide +kernel
theorem dL_law_1238 : decode cL_law 1238 = .ok (.aload_n 1, 1) := by decide +kernel
theorem dL_law_1239 : decode cL_law 1239 = .ok (.invokevirtual 167, 3) := by decide +kernel
theorem dL_law_1242 : decode cL_law 1242 = .ok (.aload_n 2, 1) := by decide +kernel
theorem dL_law_1243 : decode cL_law 1243 = .ok (.invokevirtual 170, 3) := by decide +kernel
theorem dL_law_1246 : decode cL_law 1246 = .ok (.lcmp, 1) := by decide +kernel
theorem dL_law_1247 : decode cL_law 1247 = .ok (.ifCond .eq 78, 3) := by decide +kernel
theorem dL_law_1250 : decode cL_law 1250 = .ok (.iconst 0, 1) := by decide +kernel
theorem dL_law_1251 : decode cL_law 1251 = .ok (.ireturn, 1) := by decide +kernel
theorem dL_law_1252 : decode cL_law 1252 = .ok (.aload_n 1, 1) := by decide +kernel
theorem dL_law_1253 : decode cL_law 1253 = .ok (.aload_n 0, 1) := by decide +kernel
theorem dL_law_1254 : decode cL_law 1254 = .ok (.iload_n 3, 1) := by decide +kernel
theorem dL_law_1255 : decode cL_law 1255 = .ok (.iconst 1, 1) := by decide +kernel
theorem dL_law_1256 : decode cL_law 1256 = .ok (.iadd, 1) := by decide +kernel
theorem dL_law_1257 : decode cL_law 1257 = .ok (.iaload, 1) := by decide +kernel
theorem dL_law_1258 : decode cL_law 1258 = .ok (.invokevirtual 171, 3) := by decide +kernel
theorem dL_law_1261 : decode cL_law 1261 = .ok (.aload_n 2, 1) := by decide +kernel
theorem dL_law_1262 : decode cL_law 1262 = .ok (.aload_n 0, 1) := by decide +kernel
theorem dL_law_1263 : decode cL_law 1263 = .ok (.iload_n 3, 1) := by decide +kernel
theorem dL_law_1264 : decode cL_law 1264 = .ok (.iconst 1, 1) := by decide +kernel
theorem dL_law_1265 : decode cL_law 1265 = .ok (.iadd, 1) := by decide +kernel
theorem dL_law_1266 : decode cL_law 1266 = .ok (.iaload, 1) := by decide +kernel
theorem dL_law_1267 : decode cL_law 1267 = .ok (.invokevirtual 174, 3) := by decide +kernel
theorem dL_law_1270 : decode cL_law 1270 = .ok (.if_icmp .eq 55, 3) := by decide +kernel
theorem dL_law_1273 : decode cL_law 1273 = .ok (.iconst 0, 1) := by decide +kernel
theorem dL_law_1274 : decode cL_law 1274 = .ok (.ireturn, 1) := by decide +kernel
theorem dL_law_1275 : decode cL_law 1275 = .ok (.aload_n 1, 1) := by decide +kernel
theorem dL_law_1276 : decode cL_law 1276 = .ok (.invokevirtual 175, 3) := by decide +kernel
theorem dL_law_1279 : decode cL_law 1279 = .ok (.aload_n 2, 1) := by decide +kernel
theorem dL_law_1280 : decode cL_law 1280 = .ok (.invokevirtual 178, 3) := by decide +kernel
theorem dL_law_1283 : decode cL_law 1283 = .ok (.if_icmp .eq 42, 3) := by decide +kernel
theorem dL_law_1286 : decode cL_law 1286 = .ok (.iconst 0, 1) := by decide +kernel
theorem dL_law_1287 : decode cL_law 1287 = .ok (.ireturn, 1) := by decide +kernel
theorem dL_law_1288 : decode cL_law 1288 = .ok (.aload_n 1, 1) := by decide +kernel
theorem dL_law_1289 : decode cL_law 1289 = .ok (.aload_n 0, 1) := by decide +kernel
theorem dL_law_1290 : decode cL_law 1290 = .ok (.iload_n 3, 1) := by decide +kernel
theorem dL_law_1291 : decode cL_law 1291 = .ok (.iconst 1, 1) := by decide +kernel
theorem dL_law_1292 : decode cL_law 1292 = .ok (.iadd, 1) := by decide +kernel
theorem dL_law_1293 : decode cL_law 1293 = .ok (.iaload, 1) := by decide +kernel
theorem dL_law_1294 : decode cL_law 1294 = .ok (.invokevirtual 179, 3) := by decide +kernel
theorem dL_law_1297 : decode cL_law 1297 = .ok (.aload_n 2, 1) := by decide +kernel
theorem dL_law_1298 : decode cL_law 1298 = .ok (.aload_n 0, 1) := by decide +kernel
theorem dL_law_1299 : decode cL_law 1299 = .ok (.iload_n 3, 1) := by decide +kernel
theorem dL_law_1300 : decode cL_law 1300 = .ok (.iconst 1, 1) := by decide +kernel
theorem dL_law_1301 : decode cL_law 1301 = .ok (.iadd, 1) := by decide +kernel
theorem dL_law_1302 : decode cL_law 1302 = .ok (.iaload, 1) := by decide +kernel
theorem dL_law_1303 : decode cL_law 1303 = .ok (.invokevirtual 182, 3) := by decide +kernel
theorem dL_law_1306 : decode cL_law 1306 = .ok (.if_icmp .eq 19, 3) := by decide +kernel
theorem dL_law_1309 : decode cL_law 1309 = .ok (.iconst 0, 1) := by decide +kernel
theorem dL_law_1310 : decode cL_law 1310 = .ok (.ireturn, 1) := by decide +kernel
theorem dL_law_1311 : decode cL_law 1311 = .ok (.aload_n 1, 1) := by decide +kernel
theorem dL_law_1312 : decode cL_law 1312 = .ok (.invokevirtual 183, 3) := by decide +kernel
theorem dL_law_1315 : decode cL_law 1315 = .ok (.aload_n 2, 1) := by decide +kernel
theorem dL_law_1316 : decode cL_law 1316 = .ok (.invokevirtual 186, 3) := by decide +kernel
theorem dL_law_1319 : decode cL_law 1319 = .ok (.lcmp, 1) := by decide +kernel
theorem dL_law_1320 : decode cL_law 1320 = .ok (.ifCond .eq 5, 3) := by decide +kernel
theorem dL_law_1323 : decode cL_law 1323 = .ok (.iconst 0, 1) := by decide +kernel
theorem dL_law_1324 : decode cL_law 1324 = .ok (.ireturn, 1) := by decide +kernel
theorem dL_law_1325 : decode cL_law 1325 = .ok (.iinc 3 6, 3) := by decide +kernel
theorem dL_law_1328 : decode cL_law 1328 = .ok (.goto (-1310), 3) := by decide +kernel
theorem dL_law_1331 : decode cL_law 1331 = .ok (.iconst 1, 1) := by decide +kernel
theorem dL_law_1332 : decode cL_law 1332 = .ok (.ireturn, 1) := by decide +kernel
end
section
/-! The packaged judgement. A small heap h : Nat → cell over a list of small addresses dom; small addresses are carried to the machine's by ad. -/
def tb_w : List Cond := lw_tbl.filter goodWord
abbrev mh_E : Type := (Nat × Nat × (Nat → Int32)) ⊕ ((Nat × Nat × (Nat → Option Nat)) ⊕ (Nat × List Value))
abbrev mh_ia (t n : Nat) (f : Nat → Int32) : mh_E := Sum.inl (t, n, f)
abbrev mh_ra (t n : Nat) (g : Nat → Option Nat) : mh_E := Sum.inr (Sum.inl (t, n, g))
abbrev mh_ob (k : Nat) (fs : List Value) : mh_E := Sum.inr (Sum.inr (k, fs))
abbrev mh_H : Type := Nat → mh_E
def mh_up (h : mh_H) (k : Nat) (e : mh_E) : mh_H := fun j => if j = k then e else h j
theorem mh_up_s {h : mh_H} {k : Nat} {e : mh_E} : mh_up h k e k = e := if_pos rfl
theorem mh_up_n {h : mh_H} {k j : Nat} {e : mh_E} (n : j ≠ k) : mh_up h k e j = h j := if_neg n
def mh_v (ad : Nat → Nat) (v : Value) : Value := match v with
  | .ref k => .ref (ad k)
  | v => v
theorem mh_v_cat (ad : Nat → Nat) (v : Value) : (mh_v ad v).category = v.category := by cases v <;> rfl
def mh_e (ad : Nat → Nat) (dA : Nat → ClassId) (e : mh_E) : va_E := match e with
  | Sum.inl (t, n, f) => .inl (dA t, n, .inl f)
  | Sum.inr (Sum.inl (t, n, g)) => .inl (dA t, n, .inr (.inr (.inr (.inr (fun j => (g j).map ad)))))
  | Sum.inr (Sum.inr (k, fs)) => .inr (k, fs.map (mh_v ad))
def mh_w (dom : List Nat) (ad : Nat → Nat) (dA : Nat → ClassId) (h : mh_H) : va_W := dom.map (fun k => (ad k, mh_e ad dA (h k)))
def mh_A (dom : List Nat) (ad : Nat → Nat) : Nat → Prop := fun q => ∃ k, k ∈ dom ∧ q = ad k
def mh_ty : Nat → FieldType := fun t => match t with
  | 0 => .int
  | 1 => .byte
  | 2 => .object "LeatDays$Strip"
  | 3 => .object "LeatDays$Deeds"
  | _ => .object "LeatDays$Wheel"
def mh_tys (dA : Nat → ClassId) : List (ClassId × FieldType) := [(dA 0, mh_ty 0), (dA 1, mh_ty 1), (dA 2, mh_ty 2), (dA 3, mh_ty 3), (dA 4, mh_ty 4)]
def mh_nest : List (String × Nat × MethodName × String) := [(RX0, 34, yX4_kindByLetter, RX4), (RX0, 50, yX4_isOfKind, RX4)]
def mh_K (D : va_G) (dA : Nat → ClassId) (s : State) : Prop := va_K D vwCl (mh_tys dA) s ∧ ∀ q ∈ mh_nest, va_Nw (.methodLinkNest q.1 q.2.1 q.2.2.1 q.2.2.2) s
theorem mh_K.warm {D : va_G} {dA : Nat → ClassId} {s U : State} (hW : s.WarmedH U.vm) (h : mh_K D dA s) : mh_K D dA U := ⟨va_K.moved hW.alike h.1, fun q hq => va_Nw.warmM hW (h.2 q hq)⟩
theorem mh_K.same {D : va_G} {dA : Nat → ClassId} {s U : State} (hW : s.vm = U.vm) (h : mh_K D dA s) : mh_K D dA U := ⟨va_K.moved (hW ▸ Vm.Alike.refl s.vm) h.1, fun q hq => va_Nw.same rfl hW (h.2 q hq)⟩
def mx_P (dom : List Nat) (ad : Nat → Nat) (D : va_G) (dA : Nat → ClassId) (h : mh_H) (H : Heap) : Prop := va_P D vwCl (mh_w dom ad dA h) H ∧ va_D (mh_A dom ad) (mh_w dom ad dA h) ∧ ∀ k, k ∉ dom → h k = mh_ob 99 []
def mx_C (y : mt_I) (D : va_G) (dA : Nat → ClassId) (p : Program) (s : State) (m : MethodId) (args : Array Value) (meth : Method) (c : Code) : Prop :=
  p.tables.exec = Jvm.exec ∧ c.code = y.2.1 ∧ meth.sig.returnType = y.2.2.2 ∧ c.maxLocals = y.2.2.1 ∧ s.vm.findClass y.1.cls = some m.cls ∧ (∀ w ∈ tb_w, w.before args s = true) ∧ meth.locks = false ∧ mh_K D dA s
def mx_rm (d : Nat) : Room := { frames := d, cells := 0, slots := 0, locals := 60 * d }
def mx_Q (dom : List Nat) (ad : Nat → Nat) (D : va_G) (dA : Nat → ClassId) (Q : Option Value → mh_H → Prop) : Array Value → State → Outcome → State → Prop := fun _ st oc t => (∃ (r : Option Value) (h' : mh_H), oc = .returned (r.map (mh_v ad)) ∧ Q r h' ∧ mx_P dom ad D dA h' t.heap) ∧ va_F (mh_A dom ad) st t
def mh_lf (ad : Nat → Nat) : Nat → List (Option Value) → List (Nat × Value)
  | _, [] => []
  | i, none :: t => mh_lf ad (i + 1) t
  | i, some v :: t => (i, mh_v ad v) :: mh_lf ad (i + 1) t
def At (y : mt_I) (dom : List Nat) (d pc : Nat) (L : List (Option Value)) (st : List Value) (h : mh_H) (Q : Option Value → mh_H → Prop) : Prop :=
  ∀ (ad : Nat → Nat) (D : va_G) (dA : Nat → ClassId) (p : Program) (l : Launch) (e : Env) (s : State) (m : MethodId) (args : Array Value) (below : List Frame) (meth : Method) (c : Code) (H : Heap) (locs : List Loc) (ls : Array Slot),
    mx_C y D dA p s m args meth c → mx_P dom ad D dA h H → va_S (mh_A dom ad) s.heap H locs → lv_has ls y.2.2.1 (mh_lf ad 0 L) →
    W p l e (mx_rm d) s m args below meth c H locs 0 0 (MQ below (mx_Q dom ad D dA Q) args s 0 0 (mh_A dom ad)) (F0 m pc ls (st.map (mh_v ad)))
def mx_ws (y : mt_I) : List Cond := Cond.code y.1 y.2.1 y.2.2.1 y.2.2.2 :: tb_w
def Mt (y : mt_I) (dom : List Nat) (d : Nat) (av : List Value) (h : mh_H) (Q : Option Value → mh_H → Prop) : Prop :=
  ∀ (ad : Nat → Nat) (D : va_G) (dA : Nat → ClassId) (l : Launch), Met l y.1 (mx_ws y) (mx_rm d) (va_Pc (av.map (mh_v ad)) (fun U => mx_P dom ad D dA h U.heap ∧ mh_K D dA U)) (mx_Q dom ad D dA Q) 0 0 (mh_A dom ad)
-- locals
theorem mh_lf_in (ad : Nat → Nat) : ∀ (L : List (Option Value)) (i : Nat) (q : Nat × Value), q ∈ mh_lf ad i L ↔ ∃ (j : Nat) (v : Value), L[j]? = some (some v) ∧ q = (i + j, mh_v ad v)
  | [], i, q => by simp [mh_lf]
  | none :: t, i, q => by
    rw [mh_lf, mh_lf_in ad t (i + 1) q]
    constructor
    · rintro ⟨j, v, h1, h2⟩
      exact ⟨j + 1, v, by simpa using h1, by rw [h2]; simp only [Prod.mk.injEq, and_true]; omega⟩
    · rintro ⟨j, v, h1, h2⟩
      cases j with
      | zero => simp at h1
      | succ j => exact ⟨j, v, by simpa using h1, by rw [h2]; simp only [Prod.mk.injEq, and_true]; omega⟩
  | some w :: t, i, q => by
    rw [mh_lf, List.mem_cons, mh_lf_in ad t (i + 1) q]
    constructor
    · rintro (h | ⟨j, v, h1, h2⟩)
      · exact ⟨0, w, rfl, by rw [h]; rfl⟩
      · exact ⟨j + 1, v, by simpa using h1, by rw [h2]; simp only [Prod.mk.injEq, and_true]; omega⟩
    · rintro ⟨j, v, h1, h2⟩
      cases j with
      | zero => simp at h1; subst h1; exact Or.inl h2
      | succ j => exact Or.inr ⟨j, v, by simpa using h1, by rw [h2]; simp only [Prod.mk.injEq, and_true]; omega⟩
theorem mh_get {ad : Nat → Nat} {ls : Array Slot} {n i : Nat} {L : List (Option Value)} {v : Value} (h : lv_has ls n (mh_lf ad 0 L)) (hi : L[i]? = some (some v)) : ls[i]? = some (.val (mh_v ad v)) :=
  h.2.2 (i, mh_v ad v) ((mh_lf_in ad L 0 _).mpr ⟨i, v, hi, by simp⟩)
/-- a store of one word at i: what lay in front as a long is gone -/
def mh_s1 (L : List (Option Value)) (i : Nat) (v : Value) : List (Option Value) := (match i with
  | 0 => L
  | k + 1 => match L[k]? with
    | some (some (.long _)) => L.set k none
    | some (some (.double _)) => L.set k none
    | _ => L).set i (some v)
theorem mh_s1_get {L : List (Option Value)} {i j : Nat} {v w : Value} (h : (mh_s1 L i v)[j]? = some (some w)) : (j = i ∧ w = v) ∨ (j ≠ i ∧ L[j]? = some (some w) ∧ ¬ (j + 1 = i ∧ w.category = 2)) := by
  unfold mh_s1 at h
  by_cases hj : j = i
  · subst hj
    rw [List.getElem?_set] at h
    simp at h
    obtain ⟨-, h⟩ := h
    exact Or.inl ⟨rfl, h.symm⟩
  · rw [List.getElem?_set_ne (fun q => hj q.symm)] at h
    refine Or.inr ⟨hj, ?_⟩
    cases i with
    | zero => exact ⟨h, fun q => by omega⟩
    | succ k =>
      dsimp only at h
      by_cases hk : j = k
      · subst hk
        split at h
        · rw [List.getElem?_set] at h; simp at h
        · rw [List.getElem?_set] at h; simp at h
        · rename_i h1 h2
          refine ⟨h, fun q => ?_⟩
          cases w <;> simp [Value.category] at q
          · exact h1 _ h
          · exact h2 _ h
      · refine ⟨?_, fun q => hk (by omega)⟩
        split at h
        · rwa [List.getElem?_set_ne (fun q => hk q.symm)] at h
        · rwa [List.getElem?_set_ne (fun q => hk q.symm)] at h
        · exact h
theorem mh_put1 {ad : Nat → Nat} {ls : Array Slot} {n i : Nat} {L : List (Option Value)} {v : Value} (h : lv_has ls n ((i, mh_v ad v) :: (mh_lf ad 0 L).filter (fun q => !(q.1 == i) && !(q.1 + 1 == i && q.2.category == 2)))) : lv_has ls n (mh_lf ad 0 (mh_s1 L i v)) := by
  refine ⟨h.1, h.2.1, fun q hq => h.2.2 q ?_⟩
  obtain ⟨j, w, h1, rfl⟩ := (mh_lf_in ad _ 0 q).mp hq
  rcases mh_s1_get h1 with ⟨rfl, rfl⟩ | ⟨hj, hw, hc⟩
  · simp
  · refine List.mem_cons_of_mem _ (List.mem_filter.mpr ⟨(mh_lf_in ad L 0 _).mpr ⟨j, w, hw, rfl⟩, ?_⟩)
    simp only [Nat.zero_add, mh_v_cat]
    simp [hj]
    exact Decidable.not_and_iff_or_not.mp hc
/-- a store of two words at i -/
def mh_s2 (L : List (Option Value)) (i : Nat) (v : Value) : List (Option Value) := (mh_s1 L i v).set (i + 1) none
theorem mh_put2 {ad : Nat → Nat} {ls : Array Slot} {n i : Nat} {L : List (Option Value)} {v : Value} (h : lv_has ls n ((i, mh_v ad v) :: (mh_lf ad 0 L).filter (fun q => !(q.1 == i) && (!(q.1 == i + 1) && !(q.1 + 1 == i && q.2.category == 2))))) : lv_has ls n (mh_lf ad 0 (mh_s2 L i v)) := by
  refine ⟨h.1, h.2.1, fun q hq => h.2.2 q ?_⟩
  obtain ⟨j, w, h1, rfl⟩ := (mh_lf_in ad _ 0 q).mp hq
  unfold mh_s2 at h1
  have hj1 : j ≠ i + 1 := by
    intro e
    subst e
    rw [List.getElem?_set] at h1
    simp at h1
  rw [List.getElem?_set_ne (fun q => hj1 q.symm)] at h1
  rcases mh_s1_get h1 with ⟨rfl, rfl⟩ | ⟨hj, hw, hc⟩
  · simp
  · refine List.mem_cons_of_mem _ (List.mem_filter.mpr ⟨(mh_lf_in ad L 0 _).mpr ⟨j, w, hw, rfl⟩, ?_⟩)
    simp only [Nat.zero_add, mh_v_cat]
    simp [hj, hj1]
    exact Decidable.not_and_iff_or_not.mp hc
def mt_pad : Nat → List Value → List (Option Value)
  | n, [] => List.replicate n none
  | n, v :: vs => if v.category = 2 then some v :: none :: mt_pad (n - 2) vs else some v :: mt_pad (n - 1) vs
theorem mt_pad_in (ad : Nat → Nat) : ∀ (av : List Value) (n i : Nat) (q : Nat × Value), q ∈ mh_lf ad i (mt_pad n av) → q ∈ lv_args i (av.map (mh_v ad))
  | [], n, i, q, h => by
    obtain ⟨j, v, h1, -⟩ := (mh_lf_in ad _ i q).mp h
    rw [mt_pad, List.getElem?_replicate] at h1
    split at h1 <;> simp at h1
  | v :: vs, n, i, q, h => by
    rw [List.map_cons, lv_args, mh_v_cat]
    rw [mt_pad] at h
    by_cases hc : v.category = 2
    · rw [if_pos hc] at h ⊢
      rw [mh_lf, mh_lf] at h
      rcases List.mem_cons.mp h with h | h
      · exact List.mem_cons.mpr (Or.inl h)
      · exact List.mem_cons_of_mem _ (mt_pad_in ad vs _ _ q h)
    · rw [if_neg hc] at h ⊢
      rw [mh_lf] at h
      rcases List.mem_cons.mp h with h | h
      · exact List.mem_cons.mpr (Or.inl h)
      · exact List.mem_cons_of_mem _ (mt_pad_in ad vs _ _ q h)
theorem mt_sl (ad : Nat → Nat) (av : List Value) : (lg_sl (av.map (mh_v ad))).length = (lg_sl av).length := by
  induction av with
  | nil => rfl
  | cons v vs ih =>
    simp only [lg_sl, List.map_cons, List.flatMap_cons, List.length_append, mh_v_cat] at ih ⊢
    rw [ih]
    split <;> rfl
-- the world
theorem mh_at {dom : List Nat} {ad : Nat → Nat} {dA : Nat → ClassId} {h : mh_H} {k : Nat} (hk : k ∈ dom) : ∃ q0 : Nat, dom[q0]? = some k ∧ (mh_w dom ad dA h)[q0]? = some (ad k, mh_e ad dA (h k)) := by
  obtain ⟨i, hi⟩ := List.getElem?_of_mem hk
  exact ⟨i, hi, by rw [mh_w, List.getElem?_map, hi]; rfl⟩
theorem mh_set {dom : List Nat} {ad : Nat → Nat} {dA : Nat → ClassId} {h : mh_H} {A : Nat → Prop} (hD : va_D A (mh_w dom ad dA h)) {q0 k : Nat} (hk : dom[q0]? = some k) (e : mh_E) : (mh_w dom ad dA h).set q0 (ad k, mh_e ad dA e) = mh_w dom ad dA (mh_up h k e) := by
  have hat : ∀ (i j : Nat) (g : mh_H), dom[i]? = some j → (mh_w dom ad dA g)[i]? = some (ad j, mh_e ad dA (g j)) := fun i j g hi => by rw [mh_w, List.getElem?_map, hi]; rfl
  apply List.ext_getElem?
  intro i
  by_cases hi : i = q0
  · subst hi
    rw [List.getElem?_set_self (by rw [mh_w, List.length_map]; exact (List.getElem?_eq_some_iff.mp hk).1), hat _ _ _ hk, mh_up_s]
  · rw [List.getElem?_set_ne (fun q => hi q.symm)]
    cases hj : dom[i]? with
    | none => rw [mh_w, mh_w, List.getElem?_map, List.getElem?_map, hj]; rfl
    | some j =>
      rw [hat _ _ _ hj, hat _ _ _ hj]
      have hne : j ≠ k := fun e => hi (hD.1 i q0 _ _ (hat _ _ h hj) (hat _ _ h hk) (by rw [e]))
      rw [mh_up_n hne]
theorem mx_dom {dom : List Nat} {ad : Nat → Nat} {D : va_G} {dA : Nat → ClassId} {h : mh_H} {H : Heap} (hP : mx_P dom ad D dA h H) {k : Nat} (hk : h k ≠ mh_ob 99 []) : k ∈ dom := by
  by_cases hd : k ∈ dom
  · exact hd
  · exact absurd (hP.2.2 k hd) hk
theorem mx_ob {dom : List Nat} {ad : Nat → Nat} {D : va_G} {dA : Nat → ClassId} {h : mh_H} {H : Heap} (hP : mx_P dom ad D dA h H) {k ci : Nat} {fs : List Value} (hk : h k = mh_ob ci fs) (hc : ci < 99) : ∃ q0 : Nat, dom[q0]? = some k ∧ (mh_w dom ad dA h)[q0]? = some (ad k, .inr (ci, fs.map (mh_v ad))) := by
  obtain ⟨q0, h1, h2⟩ := mh_at (ad := ad) (dA := dA) (h := h) (mx_dom hP (k := k) (by rw [hk]; intro e; injection e with e; injection e with e; injection e with e; omega))
  exact ⟨q0, h1, by rw [h2, hk]; rfl⟩
theorem mx_ia {dom : List Nat} {ad : Nat → Nat} {D : va_G} {dA : Nat → ClassId} {h : mh_H} {H : Heap} (hP : mx_P dom ad D dA h H) {k t n : Nat} {f : Nat → Int32} (hk : h k = mh_ia t n f) : ∃ q0 : Nat, dom[q0]? = some k ∧ (mh_w dom ad dA h)[q0]? = some (ad k, .inl (dA t, n, .inl f)) := by
  obtain ⟨q0, h1, h2⟩ := mh_at (ad := ad) (dA := dA) (h := h) (mx_dom hP (k := k) (by rw [hk]; intro e; cases e))
  exact ⟨q0, h1, by rw [h2, hk]; rfl⟩
theorem mx_ra {dom : List Nat} {ad : Nat → Nat} {D : va_G} {dA : Nat → ClassId} {h : mh_H} {H : Heap} (hP : mx_P dom ad D dA h H) {k t n : Nat} {g : Nat → Option Nat} (hk : h k = mh_ra t n g) : ∃ q0 : Nat, dom[q0]? = some k ∧ (mh_w dom ad dA h)[q0]? = some (ad k, .inl (dA t, n, .inr (.inr (.inr (.inr (fun j => (g j).map ad)))))) := by
  obtain ⟨q0, h1, h2⟩ := mh_at (ad := ad) (dA := dA) (h := h) (mx_dom hP (k := k) (by rw [hk]; intro e; injection e with e; cases e))
  exact ⟨q0, h1, by rw [h2, hk]; rfl⟩
theorem mx_new {dom : List Nat} {ad : Nat → Nat} {D : va_G} {dA : Nat → ClassId} {h : mh_H} {H H1 : Heap} (hP : mx_P dom ad D dA h H) {q0 k : Nat} (hk : dom[q0]? = some k) (e : mh_E) (h1 : va_P D vwCl ((mh_w dom ad dA h).set q0 (ad k, mh_e ad dA e)) H1) (h2 : va_D (mh_A dom ad) ((mh_w dom ad dA h).set q0 (ad k, mh_e ad dA e))) : mx_P dom ad D dA (mh_up h k e) H1 := by
  rw [mh_set hP.2.1 hk] at h1 h2
  refine ⟨h1, h2, fun j hj => ?_⟩
  rw [mh_up_n (fun q : j = k => hj (by rw [q]; exact List.mem_of_getElem? hk))]
  exact hP.2.2 j hj
theorem Mt.of {y : mt_I} {dom : List Nat} {d : Nat} {av : List Value} {h : mh_H} {Q : Option Value → mh_H → Prop} {L : List (Option Value)} (hn : plainName y.1.cls = true) (hs : (lg_sl av).length ≤ y.2.2.1) (hL : mt_pad y.2.2.1 av = L) (K : At y dom d 0 L [] h Q) : Mt y dom d av h Q := by
  intro ad D dA l
  refine Met.ofW (cc := y.2.1) (maxL := y.2.2.1) (ret := y.2.2.2) (ws' := tb_w) hn rfl ?_
  intro p e s m args below meth c s₁ B hml hv
  obtain ⟨rfl, hP, hK⟩ := hv
  have hts := atoms_spec (ws := mx_ws y) B.pre
  have hl := lv_entry (av.map (mh_v ad)) (n := y.2.2.1) (by rw [mt_sl]; exact hs)
  rw [lg_entry_eq]
  refine K ad D dA p l e s m _ below meth c s.heap [] _ ⟨B.exec, B.bytes, B.returns, hml, findClass_of_methodNamed B.named, fun w hw => hts w (List.mem_cons_of_mem _ hw), B.notSynchronized, hK⟩ hP va_S.rf ?_
  refine ⟨hl.1, hl.2.1, fun q hq => hl.2.2 q ?_⟩
  rw [← hL] at hq
  exact mt_pad_in ad av _ 0 q hq
section AX
variable {y z : mt_I} {dom : List Nat} {d pc : Nat} {L : List (Option Value)} {st : List Value} {h : mh_H} {Q : Option Value → mh_H → Prop}
theorem At.eq {L' : List (Option Value)} {st' : List Value} (hL : L = L') (hst : st = st') (K : At y dom d pc L' st' h Q) : At y dom d pc L st h Q := by subst hL; subst hst; exact K
theorem At.hp {h' : mh_H} (hh : h = h') (K : At y dom d pc L st h' Q) : At y dom d pc L st h Q := by subst hh; exact K
theorem At.ti {x x' : Int32} (hh : x = x') (K : At y dom d pc L (.int x' :: st) h Q) : At y dom d pc L (.int x :: st) h Q := by subst hh; exact K
theorem At.tl {x x' : Int64} (hh : x = x') (K : At y dom d pc L (.long x' :: st) h Q) : At y dom d pc L (.long x :: st) h Q := by subst hh; exact K
theorem At.mono {Q' : Option Value → mh_H → Prop} (hq : ∀ r h', Q r h' → Q' r h') (K : At y dom d pc L st h Q) : At y dom d pc L st h Q' := by
  intro ad D dA p l e s m args below meth c H locs ls hC hP hS hl T hT X
  obtain ⟨t, h1, o, b1, b2, ⟨⟨r, h', e1, e2, e3⟩, b4⟩, b5⟩ := K ad D dA p l e s m args below meth c H locs ls hC hP hS hl T hT X
  exact ⟨t, h1, o, b1, b2, ⟨⟨r, h', e1, hq r h' e2, e3⟩, b4⟩, b5⟩
theorem ax_iconst {n : Int} {v : Int32} (hd : decode y.2.1 pc = .ok (.iconst n, 1)) (hv : Int32.ofInt n = v) (K : At y dom d (pc + 1) L (.int v :: st) h Q) : At y dom d pc L (st) h Q := fun ad D dA p l e s m args below meth c H locs ls hC hP hS hl => lv_iconst hC.1 hC.2.1 hd hv (K ad D dA p l e s m args below meth c H locs ls hC hP hS hl)
theorem ax_bipush {n : Int} {v : Int32} (hd : decode y.2.1 pc = .ok (.bipush n, 2)) (hv : (Int8.ofInt n).toInt32 = v) (K : At y dom d (pc + 2) L (.int v :: st) h Q) : At y dom d pc L (st) h Q := fun ad D dA p l e s m args below meth c H locs ls hC hP hS hl => lv_bipush hC.1 hC.2.1 hd hv (K ad D dA p l e s m args below meth c H locs ls hC hP hS hl)
theorem ax_sipush {n : Int} {v : Int32} (hd : decode y.2.1 pc = .ok (.sipush n, 3)) (hv : (Int16.ofInt n).toInt32 = v) (K : At y dom d (pc + 3) L (.int v :: st) h Q) : At y dom d pc L (st) h Q := fun ad D dA p l e s m args below meth c H locs ls hC hP hS hl => lv_sipush hC.1 hC.2.1 hd hv (K ad D dA p l e s m args below meth c H locs ls hC hP hS hl)
theorem ax_lconst {n : Fin 2} {v : Int64} (hd : decode y.2.1 pc = .ok (.lconst n, 1)) (hv : Int64.ofNat (n : Nat) = v) (K : At y dom d (pc + 1) L (.long v :: st) h Q) : At y dom d pc L (st) h Q := fun ad D dA p l e s m args below meth c H locs ls hC hP hS hl => lv_lconst hC.1 hC.2.1 hd hv (K ad D dA p l e s m args below meth c H locs ls hC hP hS hl)
theorem ax_iload_n {k : Fin 4} {x : Int32} (hd : decode y.2.1 pc = .ok (.iload_n k, 1)) (hi : L[(k : Nat)]? = some (some (.int x))) (K : At y dom d (pc + 1) L (.int x :: st) h Q) : At y dom d pc L (st) h Q := fun ad D dA p l e s m args below meth c H locs ls hC hP hS hl => lv_iload_n hC.1 hC.2.1 hd rfl (mh_get hl hi) (K ad D dA p l e s m args below meth c H locs ls hC hP hS hl)
theorem ax_iload {k : Nat} {x : Int32} (hd : decode y.2.1 pc = .ok (.iload k, 2)) (hi : L[k]? = some (some (.int x))) (K : At y dom d (pc + 2) L (.int x :: st) h Q) : At y dom d pc L (st) h Q := fun ad D dA p l e s m args below meth c H locs ls hC hP hS hl => lv_iload hC.1 hC.2.1 hd (mh_get hl hi) (K ad D dA p l e s m args below meth c H locs ls hC hP hS hl)
theorem ax_lload_n {k : Fin 4} {x : Int64} (hd : decode y.2.1 pc = .ok (.lload_n k, 1)) (hi : L[(k : Nat)]? = some (some (.long x))) (K : At y dom d (pc + 1) L (.long x :: st) h Q) : At y dom d pc L (st) h Q := fun ad D dA p l e s m args below meth c H locs ls hC hP hS hl => lv_lload_n hC.1 hC.2.1 hd rfl (mh_get hl hi) (K ad D dA p l e s m args below meth c H locs ls hC hP hS hl)
theorem ax_lload {k : Nat} {x : Int64} (hd : decode y.2.1 pc = .ok (.lload k, 2)) (hi : L[k]? = some (some (.long x))) (K : At y dom d (pc + 2) L (.long x :: st) h Q) : At y dom d pc L (st) h Q := fun ad D dA p l e s m args below meth c H locs ls hC hP hS hl => lv_lload hC.1 hC.2.1 hd (mh_get hl hi) (K ad D dA p l e s m args below meth c H locs ls hC hP hS hl)
theorem ax_aload_n {k : Fin 4} {x : Nat} (hd : decode y.2.1 pc = .ok (.aload_n k, 1)) (hi : L[(k : Nat)]? = some (some (.ref x))) (K : At y dom d (pc + 1) L (.ref x :: st) h Q) : At y dom d pc L (st) h Q := fun ad D dA p l e s m args below meth c H locs ls hC hP hS hl => lv_aload_n hC.1 hC.2.1 hd rfl (mh_get hl hi) (K ad D dA p l e s m args below meth c H locs ls hC hP hS hl)
theorem ax_aload {k : Nat} {x : Nat} (hd : decode y.2.1 pc = .ok (.aload k, 2)) (hi : L[k]? = some (some (.ref x))) (K : At y dom d (pc + 2) L (.ref x :: st) h Q) : At y dom d pc L (st) h Q := fun ad D dA p l e s m args below meth c H locs ls hC hP hS hl => lv_aload hC.1 hC.2.1 hd (mh_get hl hi) (K ad D dA p l e s m args below meth c H locs ls hC hP hS hl)
theorem ax_istore_n {k : Fin 4} {x : Int32} {L' : List (Option Value)} (hd : decode y.2.1 pc = .ok (.istore_n k, 1)) (hb : (k : Nat) < y.2.2.1) (hL : mh_s1 L (k : Nat) (.int x) = L') (K : At y dom d (pc + 1) L' st h Q) : At y dom d pc L (.int x :: st) h Q := fun ad D dA p l e s m args below meth c H locs ls hC hP hS hl => lv_istore_n hC.1 hC.2.1 hd rfl hl hb rfl (fun ls hl => K ad D dA p l e s m args below meth c H locs ls hC hP hS (hL ▸ mh_put1 (v := .int x) hl))
theorem ax_istore {k : Nat} {x : Int32} {L' : List (Option Value)} (hd : decode y.2.1 pc = .ok (.istore k, 2)) (hb : k < y.2.2.1) (hL : mh_s1 L k (.int x) = L') (K : At y dom d (pc + 2) L' st h Q) : At y dom d pc L (.int x :: st) h Q := fun ad D dA p l e s m args below meth c H locs ls hC hP hS hl => lv_istore hC.1 hC.2.1 hd hl hb rfl (fun ls hl => K ad D dA p l e s m args below meth c H locs ls hC hP hS (hL ▸ mh_put1 (v := .int x) hl))
theorem ax_astore_n {k : Fin 4} {x : Nat} {L' : List (Option Value)} (hd : decode y.2.1 pc = .ok (.astore_n k, 1)) (hb : (k : Nat) < y.2.2.1) (hL : mh_s1 L (k : Nat) (.ref x) = L') (K : At y dom d (pc + 1) L' st h Q) : At y dom d pc L (.ref x :: st) h Q := fun ad D dA p l e s m args below meth c H locs ls hC hP hS hl => lv_astore_n hC.1 hC.2.1 hd rfl hl hb rfl (fun ls hl => K ad D dA p l e s m args below meth c H locs ls hC hP hS (hL ▸ mh_put1 (v := .ref x) hl))
theorem ax_astore {k : Nat} {x : Nat} {L' : List (Option Value)} (hd : decode y.2.1 pc = .ok (.astore k, 2)) (hb : k < y.2.2.1) (hL : mh_s1 L k (.ref x) = L') (K : At y dom d (pc + 2) L' st h Q) : At y dom d pc L (.ref x :: st) h Q := fun ad D dA p l e s m args below meth c H locs ls hC hP hS hl => lv_astore hC.1 hC.2.1 hd hl hb rfl (fun ls hl => K ad D dA p l e s m args below meth c H locs ls hC hP hS (hL ▸ mh_put1 (v := .ref x) hl))
theorem ax_lstore_n {k : Fin 4} {x : Int64} {L' : List (Option Value)} (hd : decode y.2.1 pc = .ok (.lstore_n k, 1)) (hb : (k : Nat) + 1 < y.2.2.1) (hL : mh_s2 L (k : Nat) (.long x) = L') (K : At y dom d (pc + 1) L' st h Q) : At y dom d pc L (.long x :: st) h Q := fun ad D dA p l e s m args below meth c H locs ls hC hP hS hl => lv_lstore_n hC.1 hC.2.1 hd rfl hl hb rfl (fun ls hl => K ad D dA p l e s m args below meth c H locs ls hC hP hS (hL ▸ mh_put2 (v := .long x) hl))
theorem ax_lstore {k : Nat} {x : Int64} {L' : List (Option Value)} (hd : decode y.2.1 pc = .ok (.lstore k, 2)) (hb : k + 1 < y.2.2.1) (hL : mh_s2 L k (.long x) = L') (K : At y dom d (pc + 2) L' st h Q) : At y dom d pc L (.long x :: st) h Q := fun ad D dA p l e s m args below meth c H locs ls hC hP hS hl => lv_lstore hC.1 hC.2.1 hd hl hb rfl (fun ls hl => K ad D dA p l e s m args below meth c H locs ls hC hP hS (hL ▸ mh_put2 (v := .long x) hl))
theorem ax_iinc {k : Nat} {n : Int} {x v : Int32} {L' : List (Option Value)} (hd : decode y.2.1 pc = .ok (.iinc k n, 3)) (hi : L[k]? = some (some (.int x))) (hb : k < y.2.2.1) (hv : x + Int32.ofInt n = v) (hL : mh_s1 L k (.int v) = L') (K : At y dom d (pc + 3) L' st h Q) : At y dom d pc L st h Q := by
  intro ad D dA p l e s m args below meth c H locs ls hC hP hS hl
  obtain ⟨q, hq⟩ := List.getElem?_of_mem ((mh_lf_in ad L 0 (k, .int x)).mpr ⟨k, .int x, hi, by simp [mh_v]⟩)
  exact lv_iinc hC.1 hC.2.1 hd hl hq hv hb rfl (fun ls hl => K ad D dA p l e s m args below meth c H locs ls hC hP hS (hL ▸ mh_put1 (v := .int v) hl))
theorem ax_iadd {a b : Int32} (hd : decode y.2.1 pc = .ok (.iadd, 1))  (K : At y dom d (pc + 1) L (.int (a + b) :: st) h Q) : At y dom d pc L (.int b :: .int a :: st) h Q := fun ad D dA p l e s m args below meth c H locs ls hC hP hS hl => lv_iadd hC.1 hC.2.1 hd (K ad D dA p l e s m args below meth c H locs ls hC hP hS hl)
theorem ax_isub {a b : Int32} (hd : decode y.2.1 pc = .ok (.isub, 1))  (K : At y dom d (pc + 1) L (.int (a - b) :: st) h Q) : At y dom d pc L (.int b :: .int a :: st) h Q := fun ad D dA p l e s m args below meth c H locs ls hC hP hS hl => lv_isub hC.1 hC.2.1 hd (K ad D dA p l e s m args below meth c H locs ls hC hP hS hl)
theorem ax_imul {a b : Int32} (hd : decode y.2.1 pc = .ok (.imul, 1))  (K : At y dom d (pc + 1) L (.int (a * b) :: st) h Q) : At y dom d pc L (.int b :: .int a :: st) h Q := fun ad D dA p l e s m args below meth c H locs ls hC hP hS hl => lv_imul hC.1 hC.2.1 hd (K ad D dA p l e s m args below meth c H locs ls hC hP hS hl)
theorem ax_iand {a b : Int32} (hd : decode y.2.1 pc = .ok (.iand, 1))  (K : At y dom d (pc + 1) L (.int (a &&& b) :: st) h Q) : At y dom d pc L (.int b :: .int a :: st) h Q := fun ad D dA p l e s m args below meth c H locs ls hC hP hS hl => lv_iand hC.1 hC.2.1 hd (K ad D dA p l e s m args below meth c H locs ls hC hP hS hl)
theorem ax_ior {a b : Int32} (hd : decode y.2.1 pc = .ok (.ior, 1))  (K : At y dom d (pc + 1) L (.int (a ||| b) :: st) h Q) : At y dom d pc L (.int b :: .int a :: st) h Q := fun ad D dA p l e s m args below meth c H locs ls hC hP hS hl => lv_ior hC.1 hC.2.1 hd (K ad D dA p l e s m args below meth c H locs ls hC hP hS hl)
theorem ax_ixor {a b : Int32} (hd : decode y.2.1 pc = .ok (.ixor, 1))  (K : At y dom d (pc + 1) L (.int (a ^^^ b) :: st) h Q) : At y dom d pc L (.int b :: .int a :: st) h Q := fun ad D dA p l e s m args below meth c H locs ls hC hP hS hl => lv_ixor hC.1 hC.2.1 hd (K ad D dA p l e s m args below meth c H locs ls hC hP hS hl)
theorem ax_ishl {a b : Int32} (hd : decode y.2.1 pc = .ok (.ishl, 1))  (K : At y dom d (pc + 1) L (.int (a <<< (b &&& 31)) :: st) h Q) : At y dom d pc L (.int b :: .int a :: st) h Q := fun ad D dA p l e s m args below meth c H locs ls hC hP hS hl => lv_ishl hC.1 hC.2.1 hd (K ad D dA p l e s m args below meth c H locs ls hC hP hS hl)
theorem ax_ishr {a b : Int32} (hd : decode y.2.1 pc = .ok (.ishr, 1))  (K : At y dom d (pc + 1) L (.int (a >>> (b &&& 31)) :: st) h Q) : At y dom d pc L (.int b :: .int a :: st) h Q := fun ad D dA p l e s m args below meth c H locs ls hC hP hS hl => lv_ishr hC.1 hC.2.1 hd (K ad D dA p l e s m args below meth c H locs ls hC hP hS hl)
theorem ax_iushr {a b : Int32} (hd : decode y.2.1 pc = .ok (.iushr, 1))  (K : At y dom d (pc + 1) L (.int ((a.toUInt32 >>> (b.toUInt32 &&& Int32.toUInt32 31)).toInt32) :: st) h Q) : At y dom d pc L (.int b :: .int a :: st) h Q := fun ad D dA p l e s m args below meth c H locs ls hC hP hS hl => lv_iushr hC.1 hC.2.1 hd rfl (K ad D dA p l e s m args below meth c H locs ls hC hP hS hl)
theorem ax_ladd {a b : Int64} (hd : decode y.2.1 pc = .ok (.ladd, 1))  (K : At y dom d (pc + 1) L (.long (a + b) :: st) h Q) : At y dom d pc L (.long b :: .long a :: st) h Q := fun ad D dA p l e s m args below meth c H locs ls hC hP hS hl => lv_ladd hC.1 hC.2.1 hd (K ad D dA p l e s m args below meth c H locs ls hC hP hS hl)
theorem ax_lsub {a b : Int64} (hd : decode y.2.1 pc = .ok (.lsub, 1))  (K : At y dom d (pc + 1) L (.long (a - b) :: st) h Q) : At y dom d pc L (.long b :: .long a :: st) h Q := fun ad D dA p l e s m args below meth c H locs ls hC hP hS hl => lv_lsub hC.1 hC.2.1 hd (K ad D dA p l e s m args below meth c H locs ls hC hP hS hl)
theorem ax_lmul {a b : Int64} (hd : decode y.2.1 pc = .ok (.lmul, 1))  (K : At y dom d (pc + 1) L (.long (a * b) :: st) h Q) : At y dom d pc L (.long b :: .long a :: st) h Q := fun ad D dA p l e s m args below meth c H locs ls hC hP hS hl => lv_lmul hC.1 hC.2.1 hd (K ad D dA p l e s m args below meth c H locs ls hC hP hS hl)
theorem ax_idiv {a b : Int32} (hd : decode y.2.1 pc = .ok (.idiv, 1)) (hne : ¬ b = 0) (K : At y dom d (pc + 1) L (.int (a / b) :: st) h Q) : At y dom d pc L (.int b :: .int a :: st) h Q := fun ad D dA p l e s m args below meth c H locs ls hC hP hS hl => lv_idiv hC.1 hC.2.1 hd hne (K ad D dA p l e s m args below meth c H locs ls hC hP hS hl)
theorem ax_irem {a b : Int32} (hd : decode y.2.1 pc = .ok (.irem, 1)) (hne : ¬ b = 0) (K : At y dom d (pc + 1) L (.int (a - a / b * b) :: st) h Q) : At y dom d pc L (.int b :: .int a :: st) h Q := fun ad D dA p l e s m args below meth c H locs ls hC hP hS hl => lv_irem hC.1 hC.2.1 hd hne (K ad D dA p l e s m args below meth c H locs ls hC hP hS hl)
theorem ax_ldiv {a b : Int64} (hd : decode y.2.1 pc = .ok (.ldiv, 1)) (hne : ¬ b = 0) (K : At y dom d (pc + 1) L (.long (a / b) :: st) h Q) : At y dom d pc L (.long b :: .long a :: st) h Q := fun ad D dA p l e s m args below meth c H locs ls hC hP hS hl => lv_ldiv hC.1 hC.2.1 hd hne (K ad D dA p l e s m args below meth c H locs ls hC hP hS hl)
theorem ax_lrem {a b : Int64} (hd : decode y.2.1 pc = .ok (.lrem, 1)) (hne : ¬ b = 0) (K : At y dom d (pc + 1) L (.long (a - a / b * b) :: st) h Q) : At y dom d pc L (.long b :: .long a :: st) h Q := fun ad D dA p l e s m args below meth c H locs ls hC hP hS hl => lv_lrem hC.1 hC.2.1 hd hne (K ad D dA p l e s m args below meth c H locs ls hC hP hS hl)
theorem ax_i2l {a : Int32} (hd : decode y.2.1 pc = .ok (.i2l, 1))  (K : At y dom d (pc + 1) L (.long a.toInt64 :: st) h Q) : At y dom d pc L (.int a :: st) h Q := fun ad D dA p l e s m args below meth c H locs ls hC hP hS hl => lv_i2l hC.1 hC.2.1 hd rfl (K ad D dA p l e s m args below meth c H locs ls hC hP hS hl)
theorem ax_l2i {a : Int64} (hd : decode y.2.1 pc = .ok (.l2i, 1))  (K : At y dom d (pc + 1) L (.int a.toInt32 :: st) h Q) : At y dom d pc L (.long a :: st) h Q := fun ad D dA p l e s m args below meth c H locs ls hC hP hS hl => lv_l2i hC.1 hC.2.1 hd rfl (K ad D dA p l e s m args below meth c H locs ls hC hP hS hl)
theorem ax_i2b {a : Int32} (hd : decode y.2.1 pc = .ok (.i2b, 1))  (K : At y dom d (pc + 1) L (.int a.toInt8.toInt32 :: st) h Q) : At y dom d pc L (.int a :: st) h Q := fun ad D dA p l e s m args below meth c H locs ls hC hP hS hl => lv_i2b hC.1 hC.2.1 hd rfl (K ad D dA p l e s m args below meth c H locs ls hC hP hS hl)
theorem ax_lcmp {a b : Int64} (hd : decode y.2.1 pc = .ok (.lcmp, 1))  (K : At y dom d (pc + 1) L (.int (lg_cmp a b) :: st) h Q) : At y dom d pc L (.long b :: .long a :: st) h Q := fun ad D dA p l e s m args below meth c H locs ls hC hP hS hl => W.lcmp hC.1 hC.2.1 hd (K ad D dA p l e s m args below meth c H locs ls hC hP hS hl)
theorem ax_dup {v : Value} (hd : decode y.2.1 pc = .ok (.dup, 1)) (hc : v.category = 1) (K : At y dom d (pc + 1) L (v :: v :: st) h Q) : At y dom d pc L (v :: st) h Q := fun ad D dA p l e s m args below meth c H locs ls hC hP hS hl => lv_dup hC.1 hC.2.1 hd (by rw [mh_v_cat]; exact hc) (K ad D dA p l e s m args below meth c H locs ls hC hP hS hl)
theorem ax_pop {v : Value} (hd : decode y.2.1 pc = .ok (.pop, 1)) (hc : v.category = 1) (K : At y dom d (pc + 1) L (st) h Q) : At y dom d pc L (v :: st) h Q := fun ad D dA p l e s m args below meth c H locs ls hC hP hS hl => lv_pop hC.1 hC.2.1 hd (by rw [mh_v_cat]; exact hc) (K ad D dA p l e s m args below meth c H locs ls hC hP hS hl)
theorem ax_dup2 {v w : Value} (hd : decode y.2.1 pc = .ok (.dup2, 1)) (hc : v.category = 1) (hc2 : w.category = 1) (K : At y dom d (pc + 1) L (v :: w :: v :: w :: st) h Q) : At y dom d pc L (v :: w :: st) h Q := fun ad D dA p l e s m args below meth c H locs ls hC hP hS hl => lv_dup2_11 hC.1 hC.2.1 hd (by rw [mh_v_cat]; exact hc) (by rw [mh_v_cat]; exact hc2) (K ad D dA p l e s m args below meth c H locs ls hC hP hS hl)
theorem ax_ifeq {x : Int32} {off : Int} {tgt : Nat} (hd : decode y.2.1 pc = .ok (.ifCond .eq off, 3)) (ht : (pc : Int) + off = (tgt : Int)) (KT : x = 0 → At y dom d tgt L st h Q) (KF : ¬ x = 0 → At y dom d (pc + 3) L st h Q) : At y dom d pc L (.int x :: st) h Q := fun ad D dA p l e s m args below meth c H locs ls hC hP hS hl => lv_if_eq hC.1 hC.2.1 hd ht (fun q => KT q ad D dA p l e s m args below meth c H locs ls hC hP hS hl) (fun q => KF q ad D dA p l e s m args below meth c H locs ls hC hP hS hl)
theorem ax_icmpeq {a b : Int32} {off : Int} {tgt : Nat} (hd : decode y.2.1 pc = .ok (.if_icmp .eq off, 3)) (ht : (pc : Int) + off = (tgt : Int)) (KT : a = b → At y dom d tgt L st h Q) (KF : ¬ a = b → At y dom d (pc + 3) L st h Q) : At y dom d pc L (.int b :: .int a :: st) h Q := fun ad D dA p l e s m args below meth c H locs ls hC hP hS hl => lv_icmp_eq hC.1 hC.2.1 hd ht (fun q => KT q ad D dA p l e s m args below meth c H locs ls hC hP hS hl) (fun q => KF q ad D dA p l e s m args below meth c H locs ls hC hP hS hl)
theorem ax_ifne {x : Int32} {off : Int} {tgt : Nat} (hd : decode y.2.1 pc = .ok (.ifCond .ne off, 3)) (ht : (pc : Int) + off = (tgt : Int)) (KT : ¬ x = 0 → At y dom d tgt L st h Q) (KF : x = 0 → At y dom d (pc + 3) L st h Q) : At y dom d pc L (.int x :: st) h Q := fun ad D dA p l e s m args below meth c H locs ls hC hP hS hl => lv_if_ne hC.1 hC.2.1 hd ht (fun q => KT q ad D dA p l e s m args below meth c H locs ls hC hP hS hl) (fun q => KF q ad D dA p l e s m args below meth c H locs ls hC hP hS hl)
theorem ax_icmpne {a b : Int32} {off : Int} {tgt : Nat} (hd : decode y.2.1 pc = .ok (.if_icmp .ne off, 3)) (ht : (pc : Int) + off = (tgt : Int)) (KT : ¬ a = b → At y dom d tgt L st h Q) (KF : a = b → At y dom d (pc + 3) L st h Q) : At y dom d pc L (.int b :: .int a :: st) h Q := fun ad D dA p l e s m args below meth c H locs ls hC hP hS hl => lv_icmp_ne hC.1 hC.2.1 hd ht (fun q => KT q ad D dA p l e s m args below meth c H locs ls hC hP hS hl) (fun q => KF q ad D dA p l e s m args below meth c H locs ls hC hP hS hl)
theorem ax_iflt {x : Int32} {off : Int} {tgt : Nat} (hd : decode y.2.1 pc = .ok (.ifCond .lt off, 3)) (ht : (pc : Int) + off = (tgt : Int)) (KT : x < 0 → At y dom d tgt L st h Q) (KF : ¬ x < 0 → At y dom d (pc + 3) L st h Q) : At y dom d pc L (.int x :: st) h Q := fun ad D dA p l e s m args below meth c H locs ls hC hP hS hl => lv_if_lt hC.1 hC.2.1 hd ht (fun q => KT q ad D dA p l e s m args below meth c H locs ls hC hP hS hl) (fun q => KF q ad D dA p l e s m args below meth c H locs ls hC hP hS hl)
theorem ax_icmplt {a b : Int32} {off : Int} {tgt : Nat} (hd : decode y.2.1 pc = .ok (.if_icmp .lt off, 3)) (ht : (pc : Int) + off = (tgt : Int)) (KT : a < b → At y dom d tgt L st h Q) (KF : ¬ a < b → At y dom d (pc + 3) L st h Q) : At y dom d pc L (.int b :: .int a :: st) h Q := fun ad D dA p l e s m args below meth c H locs ls hC hP hS hl => lv_icmp_lt hC.1 hC.2.1 hd ht (fun q => KT q ad D dA p l e s m args below meth c H locs ls hC hP hS hl) (fun q => KF q ad D dA p l e s m args below meth c H locs ls hC hP hS hl)
theorem ax_ifge {x : Int32} {off : Int} {tgt : Nat} (hd : decode y.2.1 pc = .ok (.ifCond .ge off, 3)) (ht : (pc : Int) + off = (tgt : Int)) (KT : 0 ≤ x → At y dom d tgt L st h Q) (KF : ¬ 0 ≤ x → At y dom d (pc + 3) L st h Q) : At y dom d pc L (.int x :: st) h Q := fun ad D dA p l e s m args below meth c H locs ls hC hP hS hl => lv_if_ge hC.1 hC.2.1 hd ht (fun q => KT q ad D dA p l e s m args below meth c H locs ls hC hP hS hl) (fun q => KF q ad D dA p l e s m args below meth c H locs ls hC hP hS hl)
theorem ax_icmpge {a b : Int32} {off : Int} {tgt : Nat} (hd : decode y.2.1 pc = .ok (.if_icmp .ge off, 3)) (ht : (pc : Int) + off = (tgt : Int)) (KT : b ≤ a → At y dom d tgt L st h Q) (KF : ¬ b ≤ a → At y dom d (pc + 3) L st h Q) : At y dom d pc L (.int b :: .int a :: st) h Q := fun ad D dA p l e s m args below meth c H locs ls hC hP hS hl => lv_icmp_ge hC.1 hC.2.1 hd ht (fun q => KT q ad D dA p l e s m args below meth c H locs ls hC hP hS hl) (fun q => KF q ad D dA p l e s m args below meth c H locs ls hC hP hS hl)
theorem ax_ifgt {x : Int32} {off : Int} {tgt : Nat} (hd : decode y.2.1 pc = .ok (.ifCond .gt off, 3)) (ht : (pc : Int) + off = (tgt : Int)) (KT : 0 < x → At y dom d tgt L st h Q) (KF : ¬ 0 < x → At y dom d (pc + 3) L st h Q) : At y dom d pc L (.int x :: st) h Q := fun ad D dA p l e s m args below meth c H locs ls hC hP hS hl => lv_if_gt hC.1 hC.2.1 hd ht (fun q => KT q ad D dA p l e s m args below meth c H locs ls hC hP hS hl) (fun q => KF q ad D dA p l e s m args below meth c H locs ls hC hP hS hl)
theorem ax_icmpgt {a b : Int32} {off : Int} {tgt : Nat} (hd : decode y.2.1 pc = .ok (.if_icmp .gt off, 3)) (ht : (pc : Int) + off = (tgt : Int)) (KT : b < a → At y dom d tgt L st h Q) (KF : ¬ b < a → At y dom d (pc + 3) L st h Q) : At y dom d pc L (.int b :: .int a :: st) h Q := fun ad D dA p l e s m args below meth c H locs ls hC hP hS hl => lv_icmp_gt hC.1 hC.2.1 hd ht (fun q => KT q ad D dA p l e s m args below meth c H locs ls hC hP hS hl) (fun q => KF q ad D dA p l e s m args below meth c H locs ls hC hP hS hl)
theorem ax_ifle {x : Int32} {off : Int} {tgt : Nat} (hd : decode y.2.1 pc = .ok (.ifCond .le off, 3)) (ht : (pc : Int) + off = (tgt : Int)) (KT : x ≤ 0 → At y dom d tgt L st h Q) (KF : ¬ x ≤ 0 → At y dom d (pc + 3) L st h Q) : At y dom d pc L (.int x :: st) h Q := fun ad D dA p l e s m args below meth c H locs ls hC hP hS hl => lv_if_le hC.1 hC.2.1 hd ht (fun q => KT q ad D dA p l e s m args below meth c H locs ls hC hP hS hl) (fun q => KF q ad D dA p l e s m args below meth c H locs ls hC hP hS hl)
theorem ax_icmple {a b : Int32} {off : Int} {tgt : Nat} (hd : decode y.2.1 pc = .ok (.if_icmp .le off, 3)) (ht : (pc : Int) + off = (tgt : Int)) (KT : a ≤ b → At y dom d tgt L st h Q) (KF : ¬ a ≤ b → At y dom d (pc + 3) L st h Q) : At y dom d pc L (.int b :: .int a :: st) h Q := fun ad D dA p l e s m args below meth c H locs ls hC hP hS hl => lv_icmp_le hC.1 hC.2.1 hd ht (fun q => KT q ad D dA p l e s m args below meth c H locs ls hC hP hS hl) (fun q => KF q ad D dA p l e s m args below meth c H locs ls hC hP hS hl)
theorem ax_goto {off : Int} {tgt : Nat} (hd : decode y.2.1 pc = .ok (.goto off, 3)) (ht : (pc : Int) + off = (tgt : Int)) (K : At y dom d tgt L st h Q) : At y dom d pc L st h Q := fun ad D dA p l e s m args below meth c H locs ls hC hP hS hl => lv_goto hC.1 hC.2.1 hd ht (K ad D dA p l e s m args below meth c H locs ls hC hP hS hl)
theorem ax_tswIn {dflt lo hi off : Int} {offs : Array Int} {len tgt : Nat} {x : Int32} (hd : decode y.2.1 pc = .ok (.tableswitch dflt lo hi offs, len)) (h1 : ¬ x.toInt < lo) (h2 : ¬ hi < x.toInt) (ho : offs[(x.toInt - lo).toNat]? = some off) (ht : (pc : Int) + off = (tgt : Int)) (K : At y dom d tgt L st h Q) : At y dom d pc L (.int x :: st) h Q := fun ad D dA p l e s m args below meth c H locs ls hC hP hS hl => lv_tableIn hC.1 hC.2.1 hd h1 h2 ho ht (K ad D dA p l e s m args below meth c H locs ls hC hP hS hl)
theorem ax_tswOut {dflt lo hi : Int} {offs : Array Int} {len tgt : Nat} {x : Int32} (hd : decode y.2.1 pc = .ok (.tableswitch dflt lo hi offs, len)) (hx : x.toInt < lo ∨ hi < x.toInt) (ht : (pc : Int) + dflt = (tgt : Int)) (K : At y dom d tgt L st h Q) : At y dom d pc L (.int x :: st) h Q := fun ad D dA p l e s m args below meth c H locs ls hC hP hS hl => lv_tableOut hC.1 hC.2.1 hd hx ht (K ad D dA p l e s m args below meth c H locs ls hC hP hS hl)
theorem ax_ldc {i : Nat} {v : Int32} (hd : decode y.2.1 pc = .ok (.ldc i, 2)) (hw : Cond.constant y.1.cls i v ∈ tb_w) (K : At y dom d (pc + 2) L (.int v :: st) h Q) : At y dom d pc L st h Q := fun ad D dA p l e s m args below meth c H locs ls hC hP hS hl => lv_ldc hC.1 hC.2.1 hC.2.2.2.2.1 (hC.2.2.2.2.2.1 _ hw) hd (K ad D dA p l e s m args below meth c H locs ls hC hP hS hl)
theorem ax_ldcw {i : Nat} {v : Int32} (hd : decode y.2.1 pc = .ok (.ldc_w i, 3)) (hw : Cond.constant y.1.cls i v ∈ tb_w) (K : At y dom d (pc + 3) L (.int v :: st) h Q) : At y dom d pc L st h Q := fun ad D dA p l e s m args below meth c H locs ls hC hP hS hl => lv_ldcw hC.1 hC.2.1 hC.2.2.2.2.1 (hC.2.2.2.2.2.1 _ hw) hd (K ad D dA p l e s m args below meth c H locs ls hC hP hS hl)
theorem ax_ldc2 {i : Nat} {v : Int64} (hd : decode y.2.1 pc = .ok (.ldc2_w i, 3)) (hw : Cond.constantLong y.1.cls i v ∈ tb_w) (K : At y dom d (pc + 3) L (.long v :: st) h Q) : At y dom d pc L st h Q := fun ad D dA p l e s m args below meth c H locs ls hC hP hS hl => lv_ldc2 hC.1 hC.2.1 hC.2.2.2.2.1 (hC.2.2.2.2.2.1 _ hw) hd (K ad D dA p l e s m args below meth c H locs ls hC hP hS hl)
theorem ax_iret {v : Int32} (hd : decode y.2.1 pc = .ok (.ireturn, 1)) (hr : y.2.2.2 = some .int) (hq : Q (some (.int v)) h) : At y dom d pc L [.int v] h Q := fun ad D dA p l e s m args below meth c H locs ls hC hP hS hl => W.iret hC.1 hC.2.1 (hC.2.2.1.trans hr) (fun t ht hW => ⟨⟨some (.int v), h, rfl, hq, by rw [ht]; exact hP⟩, hS.F ht⟩) hS.2.2 hd hC.2.2.2.2.2.2.1
theorem ax_zret {v : Int32} (hd : decode y.2.1 pc = .ok (.ireturn, 1)) (hr : y.2.2.2 = some .boolean) (hn : narrow .boolean (.int v) = .int v) (hq : Q (some (.int v)) h) : At y dom d pc L [.int v] h Q := fun ad D dA p l e s m args below meth c H locs ls hC hP hS hl => W.zret hC.1 hC.2.1 (hC.2.2.1.trans hr) hn (fun t ht hW => ⟨⟨some (.int v), h, rfl, hq, by rw [ht]; exact hP⟩, hS.F ht⟩) hS.2.2 hd hC.2.2.2.2.2.2.1
theorem ax_lret {v : Int64} (hd : decode y.2.1 pc = .ok (.lreturn, 1)) (hr : y.2.2.2 = some .long) (hq : Q (some (.long v)) h) : At y dom d pc L [.long v] h Q := fun ad D dA p l e s m args below meth c H locs ls hC hP hS hl => W.lret hC.1 hC.2.1 (hC.2.2.1.trans hr) (fun t ht hW => ⟨⟨some (.long v), h, rfl, hq, by rw [ht]; exact hP⟩, hS.F ht⟩) hS.2.2 hd hC.2.2.2.2.2.2.1
theorem ax_vret (hd : decode y.2.1 pc = .ok (.return_, 1)) (hr : y.2.2.2 = none) (hq : Q none h) : At y dom d pc L [] h Q := fun ad D dA p l e s m args below meth c H locs ls hC hP hS hl => W.vret hC.1 hC.2.1 (hC.2.2.1.trans hr) (fun t ht hW => ⟨⟨none, h, rfl, hq, by rw [ht]; exact hP⟩, hS.F ht⟩) hS.2.2 hd hC.2.2.2.2.2.2.1
end AX
end
section
theorem tb_in {w : Cond} (h1 : w ∈ lw_tbl) (h2 : goodWord w = true) : w ∈ tb_w := List.mem_filter.mpr ⟨h1, h2⟩
theorem tb_good {w : Cond} (h : w ∈ tb_w) : (w.onTables && w.keeps) = true ∨ ∃ ty, w = .arrayClass ty := good_of_word (List.mem_filter.mp h).2
def mx_F (own : String) (idx ci k : Nat) : Prop := ∃ (C : String) (T : u_T) (N : Nat), vwCl[ci]? = some (C, T, N) ∧ (∀ w ∈ u_ws C T N, w ∈ tb_w) ∧ k < N ∧ Cond.fieldLink own idx (T k).1 (T k).2.1 (T k).2.2.1 ∈ tb_w ∧ ci < 99
def mx_G (own : String) (idx ci k : Nat) (ty : FieldType) : Prop := ∃ (C : String) (T : u_T) (N : Nat) (ty0 : Nat → FieldType), vwCl[ci]? = some (C, T, N) ∧ (∀ w ∈ u_ws C T N, w ∈ tb_w) ∧ k < N ∧ Cond.fieldLink own idx (T k).1 (T k).2.1 (T k).2.2.1 ∈ tb_w ∧ ci < 99 ∧ (∀ k, k < N → parseFieldDescriptor (T k).2.2.1 = some (ty0 k)) ∧ (∀ a, a < N → ∀ b, b < N → a ≠ b → (T a).2.1 ≠ (T b).2.1) ∧ (T k).2.2.2 = false ∧ parseFieldDescriptor (T k).2.2.1 = some ty
theorem mh_tys_at (dA : Nat → ClassId) {t : Nat} (ht : t < 5) : (mh_tys dA)[t]? = some (dA t, mh_ty t) := by
  rcases (show t = 0 ∨ t = 1 ∨ t = 2 ∨ t = 3 ∨ t = 4 by omega) with rfl | rfl | rfl | rfl | rfl <;> rfl
theorem mh_up_uu {h : mh_H} {k : Nat} {e e' : mh_E} : mh_up (mh_up h k e) k e' = mh_up h k e' := by
  funext j
  unfold mh_up
  split <;> rfl
theorem mh_up_id {h : mh_H} {k : Nat} {e : mh_E} (he : h k = e) : mh_up h k e = h := by
  funext j
  unfold mh_up
  split
  · rename_i hj; rw [hj, he]
  · rfl
theorem mh_up_cm {h : mh_H} {k j : Nat} {e e' : mh_E} (hn : k ≠ j) : mh_up (mh_up h k e) j e' = mh_up (mh_up h j e') k e := by
  funext i
  unfold mh_up
  by_cases h1 : i = j
  · by_cases h2 : i = k
    · exact absurd (h2.symm.trans h1) hn
    · rw [if_pos h1, if_neg h2, if_pos h1]
  · by_cases h2 : i = k
    · rw [if_neg h1, if_pos h2, if_pos h2]
    · rw [if_neg h1, if_neg h2, if_neg h2, if_neg h1]
def mh_nl (v : Option Value) : Bool := match v with
  | some (.long _) => false
  | some (.double _) => false
  | _ => true
theorem mh_s1_1 {l0 l1 : Option Value} {r : List (Option Value)} {v : Value} (hp : mh_nl l0 = true) : mh_s1 (l0 :: l1 :: r) 1 v = l0 :: some v :: r := by
  cases l0 with
  | none => rfl
  | some w => cases w <;> first | rfl | (exact absurd hp (by simp [mh_nl]))
theorem mh_s1_2 {l0 l1 l2 : Option Value} {r : List (Option Value)} {v : Value} (hp : mh_nl l1 = true) : mh_s1 (l0 :: l1 :: l2 :: r) 2 v = l0 :: l1 :: some v :: r := by
  cases l1 with
  | none => rfl
  | some w => cases w <;> first | rfl | (exact absurd hp (by simp [mh_nl]))
theorem mh_s1_3 {l0 l1 l2 l3 : Option Value} {r : List (Option Value)} {v : Value} (hp : mh_nl l2 = true) : mh_s1 (l0 :: l1 :: l2 :: l3 :: r) 3 v = l0 :: l1 :: l2 :: some v :: r := by
  cases l2 with
  | none => rfl
  | some w => cases w <;> first | rfl | (exact absurd hp (by simp [mh_nl]))
theorem mh_s1_4 {l0 l1 l2 l3 l4 : Option Value} {r : List (Option Value)} {v : Value} (hp : mh_nl l3 = true) : mh_s1 (l0 :: l1 :: l2 :: l3 :: l4 :: r) 4 v = l0 :: l1 :: l2 :: l3 :: some v :: r := by
  cases l3 with
  | none => rfl
  | some w => cases w <;> first | rfl | (exact absurd hp (by simp [mh_nl]))
theorem mh_s1_5 {l0 l1 l2 l3 l4 l5 : Option Value} {r : List (Option Value)} {v : Value} (hp : mh_nl l4 = true) : mh_s1 (l0 :: l1 :: l2 :: l3 :: l4 :: l5 :: r) 5 v = l0 :: l1 :: l2 :: l3 :: l4 :: some v :: r := by
  cases l4 with
  | none => rfl
  | some w => cases w <;> first | rfl | (exact absurd hp (by simp [mh_nl]))
theorem mh_s1_6 {l0 l1 l2 l3 l4 l5 l6 : Option Value} {r : List (Option Value)} {v : Value} (hp : mh_nl l5 = true) : mh_s1 (l0 :: l1 :: l2 :: l3 :: l4 :: l5 :: l6 :: r) 6 v = l0 :: l1 :: l2 :: l3 :: l4 :: l5 :: some v :: r := by
  cases l5 with
  | none => rfl
  | some w => cases w <;> first | rfl | (exact absurd hp (by simp [mh_nl]))
theorem mh_s1_7 {l0 l1 l2 l3 l4 l5 l6 l7 : Option Value} {r : List (Option Value)} {v : Value} (hp : mh_nl l6 = true) : mh_s1 (l0 :: l1 :: l2 :: l3 :: l4 :: l5 :: l6 :: l7 :: r) 7 v = l0 :: l1 :: l2 :: l3 :: l4 :: l5 :: l6 :: some v :: r := by
  cases l6 with
  | none => rfl
  | some w => cases w <;> first | rfl | (exact absurd hp (by simp [mh_nl]))
theorem mh_s1_8 {l0 l1 l2 l3 l4 l5 l6 l7 l8 : Option Value} {r : List (Option Value)} {v : Value} (hp : mh_nl l7 = true) : mh_s1 (l0 :: l1 :: l2 :: l3 :: l4 :: l5 :: l6 :: l7 :: l8 :: r) 8 v = l0 :: l1 :: l2 :: l3 :: l4 :: l5 :: l6 :: l7 :: some v :: r := by
  cases l7 with
  | none => rfl
  | some w => cases w <;> first | rfl | (exact absurd hp (by simp [mh_nl]))
theorem mh_s1_9 {l0 l1 l2 l3 l4 l5 l6 l7 l8 l9 : Option Value} {r : List (Option Value)} {v : Value} (hp : mh_nl l8 = true) : mh_s1 (l0 :: l1 :: l2 :: l3 :: l4 :: l5 :: l6 :: l7 :: l8 :: l9 :: r) 9 v = l0 :: l1 :: l2 :: l3 :: l4 :: l5 :: l6 :: l7 :: l8 :: some v :: r := by
  cases l8 with
  | none => rfl
  | some w => cases w <;> first | rfl | (exact absurd hp (by simp [mh_nl]))
theorem mh_s1_10 {l0 l1 l2 l3 l4 l5 l6 l7 l8 l9 l10 : Option Value} {r : List (Option Value)} {v : Value} (hp : mh_nl l9 = true) : mh_s1 (l0 :: l1 :: l2 :: l3 :: l4 :: l5 :: l6 :: l7 :: l8 :: l9 :: l10 :: r) 10 v = l0 :: l1 :: l2 :: l3 :: l4 :: l5 :: l6 :: l7 :: l8 :: l9 :: some v :: r := by
  cases l9 with
  | none => rfl
  | some w => cases w <;> first | rfl | (exact absurd hp (by simp [mh_nl]))
theorem mh_s1_11 {l0 l1 l2 l3 l4 l5 l6 l7 l8 l9 l10 l11 : Option Value} {r : List (Option Value)} {v : Value} (hp : mh_nl l10 = true) : mh_s1 (l0 :: l1 :: l2 :: l3 :: l4 :: l5 :: l6 :: l7 :: l8 :: l9 :: l10 :: l11 :: r) 11 v = l0 :: l1 :: l2 :: l3 :: l4 :: l5 :: l6 :: l7 :: l8 :: l9 :: l10 :: some v :: r := by
  cases l10 with
  | none => rfl
  | some w => cases w <;> first | rfl | (exact absurd hp (by simp [mh_nl]))
theorem mx_bool {x : Int32} (hn : narrow .boolean (.int x) = .int x) : x = 0 ∨ x = 1 := by
  have h : x &&& 1 = x := by simpa [narrow] using hn
  rw [pk_and x (m := 1) 1 rfl] at h
  rcases Nat.mod_two_eq_zero_or_one x.toBitVec.toNat with h2 | h2
  · exact Or.inl (h.symm.trans (by rw [show (2 : Nat) ^ 1 = 2 from rfl, h2]; rfl))
  · exact Or.inr (h.symm.trans (by rw [show (2 : Nat) ^ 1 = 2 from rfl, h2]; rfl))
section AY
variable {y z : mt_I} {dom : List Nat} {d pc : Nat} {L : List (Option Value)} {st rest : List Value} {h : mh_H} {Q : Option Value → mh_H → Prop}
theorem ax_getf {idx ci k a : Nat} {fs : List Value} {v : Value} (hf : mx_F y.1.cls idx ci k) (hd : decode y.2.1 pc = .ok (.getfield idx, 3)) (ha : h a = mh_ob ci fs) (hv : fs[k]? = some v) (K : At y dom d (pc + 3) L (v :: st) h Q) : At y dom d pc L (.ref a :: st) h Q := by
  intro ad D dA p l e s m args below meth c H locs ls hC hP hS hl
  obtain ⟨C, T, N, h1, h2, h3, h4, h5⟩ := hf
  obtain ⟨q0, g1, g2⟩ := mx_ob hP ha h5
  exact va_get (D := D) (ci := ci) (v := mh_v ad v) (C := C) (T := T) (N := N) hC.1 hC.2.1 hC.2.2.2.2.2.1 h2 hC.2.2.2.2.1 hC.2.2.2.2.2.2.2.1 hP.1 q0 g2 h1 k h3 (hC.2.2.2.2.2.1 _ h4) (fun _ h => h) (by rw [List.getElem?_map, hv]; rfl) hd (K ad D dA p l e s m args below meth c H locs ls hC hP hS hl)
theorem ax_put {idx ci k a : Nat} {fs : List Value} {v : Value} {ty : FieldType} (hf : mx_G y.1.cls idx ci k ty) (hd : decode y.2.1 pc = .ok (.putfield idx, 3)) (ha : h a = mh_ob ci fs) (hn : narrow ty v = v) (hfit : fits ty v = true) (hr : ∀ ad, mh_v ad v = v) (hk : k < fs.length) (K : At y dom d (pc + 3) L st (mh_up h a (mh_ob ci (fs.set k v))) Q) : At y dom d pc L (v :: .ref a :: st) h Q := by
  intro ad D dA p l e s m args below meth c H locs ls hC hP hS hl
  obtain ⟨C, T, N, ty0, h1, h2, h3, h4, h5, h6, h7, h8, h9⟩ := hf
  obtain ⟨q0, g1, g2⟩ := mx_ob hP ha h5
  show W _ _ _ _ _ _ _ _ _ _ _ _ _ _ _ (F0 m pc ls (mh_v ad v :: .ref (ad a) :: st.map (mh_v ad)))
  rw [hr ad]
  refine va_put (D := D) (ci := ci) (v := v) (ty := ty) (C := C) (T := T) (N := N) hC.1 hC.2.1 hC.2.2.2.2.2.1 h2 ty0 h6 h7 hC.2.2.2.2.1 hC.2.2.2.2.2.2.2.1 hP.1 hP.2.1 hS q0 g2 h1 k h3 (hC.2.2.2.2.2.1 _ h4) (fun _ h => h) h8 h9 hn hfit (by rw [List.length_map]; exact hk) hd (fun H1 locs1 e1 e2 hS => ?_)
  have he : (ad a, (Sum.inr (ci, (fs.map (mh_v ad)).set k v) : va_E)) = (ad a, mh_e ad dA (mh_ob ci (fs.set k v))) := by
    show _ = (ad a, (Sum.inr (ci, (fs.set k v).map (mh_v ad)) : va_E))
    rw [List.map_set, hr ad]
  rw [he] at e1 e2
  exact K ad D dA p l e s m args below meth c H1 locs1 ls hC (mx_new hP g1 _ e1 e2) hS hl
theorem ax_iald {a n : Nat} {f : Nat → Int32} {i : Int32} (hd : decode y.2.1 pc = .ok (.iaload, 1)) (ha : h a = mh_ia 0 n f) (hi : vp_in i n) (K : At y dom d (pc + 1) L (.int (f i.toNatClampNeg) :: st) h Q) : At y dom d pc L (.int i :: .ref a :: st) h Q := by
  intro ad D dA p l e s m args below meth c H locs ls hC hP hS hl
  obtain ⟨q0, g1, g2⟩ := mx_ia hP ha
  exact va_iald hC.1 hC.2.1 hC.2.2.2.2.2.2.2.1 hP.1 q0 0 g2 (mh_tys_at dA (by decide)) hi hd (K ad D dA p l e s m args below meth c H locs ls hC hP hS hl)
theorem ax_bald {a n : Nat} {f : Nat → Int32} {i : Int32} (hd : decode y.2.1 pc = .ok (.baload, 1)) (ha : h a = mh_ia 1 n f) (hi : vp_in i n) (K : At y dom d (pc + 1) L (.int (f i.toNatClampNeg) :: st) h Q) : At y dom d pc L (.int i :: .ref a :: st) h Q := by
  intro ad D dA p l e s m args below meth c H locs ls hC hP hS hl
  obtain ⟨q0, g1, g2⟩ := mx_ia hP ha
  exact va_bald hC.1 hC.2.1 hC.2.2.2.2.2.2.2.1 hP.1 q0 1 g2 (mh_tys_at dA (by decide)) hi hd (K ad D dA p l e s m args below meth c H locs ls hC hP hS hl)
theorem ax_aald {a t n q : Nat} {g : Nat → Option Nat} {i : Int32} (hd : decode y.2.1 pc = .ok (.aaload, 1)) (ha : h a = mh_ra t n g) (ht : 2 ≤ t ∧ t < 5) (hi : vp_in i n) (hg : g i.toNatClampNeg = some q) (K : At y dom d (pc + 1) L (.ref q :: st) h Q) : At y dom d pc L (.int i :: .ref a :: st) h Q := by
  intro ad D dA p l e s m args below meth c H locs ls hC hP hS hl
  obtain ⟨q0, g1, g2⟩ := mx_ra hP ha
  obtain ⟨E, hE⟩ : ∃ E, mh_ty t = .object E := by
    rcases (show t = 2 ∨ t = 3 ∨ t = 4 by omega) with rfl | rfl | rfl <;> exact ⟨_, rfl⟩
  refine va_aldq (C := E) hC.1 hC.2.1 hC.2.2.2.2.2.2.2.1 hP.1 q0 t g2 (by rw [mh_tys_at dA (by omega), hE]) hi hd ?_
  rw [hg]
  exact (K ad D dA p l e s m args below meth c H locs ls hC hP hS hl)
theorem ax_iast {a n : Nat} {f : Nat → Int32} {i x : Int32} (hd : decode y.2.1 pc = .ok (.iastore, 1)) (ha : h a = mh_ia 0 n f) (hi : vp_in i n) (K : At y dom d (pc + 1) L st (mh_up h a (mh_ia 0 n (upd f i.toNatClampNeg x))) Q) : At y dom d pc L (.int x :: .int i :: .ref a :: st) h Q := by
  intro ad D dA p l e s m args below meth c H locs ls hC hP hS hl
  obtain ⟨q0, g1, g2⟩ := mx_ia hP ha
  refine va_iast hC.1 hC.2.1 hC.2.2.2.2.2.2.2.1 hP.1 hP.2.1 hS q0 0 g2 (mh_tys_at dA (by decide)) hi hd (fun H1 locs1 e1 e2 hS => ?_)
  exact K ad D dA p l e s m args below meth c H1 locs1 ls hC (mx_new hP g1 (mh_ia 0 n (upd f i.toNatClampNeg x)) e1 e2) hS hl
theorem ax_bast {a n : Nat} {f : Nat → Int32} {i x : Int32} (hd : decode y.2.1 pc = .ok (.bastore, 1)) (ha : h a = mh_ia 1 n f) (hi : vp_in i n) (K : At y dom d (pc + 1) L st (mh_up h a (mh_ia 1 n (upd f i.toNatClampNeg (vp_nar .byte x)))) Q) : At y dom d pc L (.int x :: .int i :: .ref a :: st) h Q := by
  intro ad D dA p l e s m args below meth c H locs ls hC hP hS hl
  obtain ⟨q0, g1, g2⟩ := mx_ia hP ha
  refine va_bast hC.1 hC.2.1 hC.2.2.2.2.2.2.2.1 hP.1 hP.2.1 hS q0 1 g2 (mh_tys_at dA (by decide)) hi hd (fun H1 locs1 e1 e2 hS => ?_)
  exact K ad D dA p l e s m args below meth c H1 locs1 ls hC (mx_new hP g1 (mh_ia 1 n (upd f i.toNatClampNeg (vp_nar .byte x))) e1 e2) hS hl
theorem ax_rlen {a t n : Nat} {g : Nat → Option Nat} {v : Int32} (hd : decode y.2.1 pc = .ok (.arraylength, 1)) (ha : h a = mh_ra t n g) (ht : t < 5) (hv : Int32.ofNat n = v) (K : At y dom d (pc + 1) L (.int v :: st) h Q) : At y dom d pc L (.ref a :: st) h Q := by
  intro ad D dA p l e s m args below meth c H locs ls hC hP hS hl
  obtain ⟨q0, g1, g2⟩ := mx_ra hP ha
  exact va_alen hC.1 hC.2.1 hC.2.2.2.2.2.2.2.1 hP.1 q0 t g2 (mh_tys_at dA ht) hv hd (K ad D dA p l e s m args below meth c H locs ls hC hP hS hl)
-- the end of a call
def mx_Ri (P : Int32 → mh_H → Prop) : Option Value → mh_H → Prop := fun r h' => ∃ v, r = some (.int v) ∧ P v h'
def mx_Rl (P : Int64 → mh_H → Prop) : Option Value → mh_H → Prop := fun r h' => ∃ v, r = some (.long v) ∧ P v h'
def mx_Rv (P : mh_H → Prop) : Option Value → mh_H → Prop := fun r h' => r = none ∧ P h'
theorem mx_call {ad : Nat → Nat} {D : va_G} {dA : Nat → ClassId} {p : Program} {l : Launch} {e : Env} {s : State} {m : MethodId} {args : Array Value} {below : List Frame} {meth : Method} {c : Code} {H : Heap} {locs : List Loc} {ls : Array Slot} {R : Room} {st0 rest : List Value} {Qc : Option Value → mh_H → Prop} {a : Array Value} {Z : State → Prop}
    (hr : va_Run p l e R s m args below meth c H locs 0 0 0 0 (F0 m pc ls st0) rest (mx_Q dom ad D dA Qc a) (mh_A dom ad)) (hS : va_S (mh_A dom ad) s.heap H locs)
    (K : ∀ (r : Option Value) (h' : mh_H) (H1 : Heap) (locs1 : List Loc), Qc r h' → mx_P dom ad D dA h' H1 → va_S (mh_A dom ad) s.heap H1 locs1 → W p l e R s m args below meth c H1 locs1 0 0 Z (F0 m (pc + 3) ls ((r.map (mh_v ad)).toList ++ rest))) : W p l e R s m args below meth c H locs 0 0 Z (F0 m pc ls st0) := by
  intro T hT X
  obtain ⟨v, st₀, t, T', L, h0, X', hL, e1, e2, ⟨⟨r, h', hv, hq, hw⟩, hz, hk⟩, st⟩ := hr T hT X
  cases hv
  rw [h0] at hz hk
  obtain ⟨t2, a1, b1⟩ := K r h' T'.heap (locs ++ L) hq (by rw [e1]; exact hw) ⟨Nat.le_trans hS.1 (by rw [e1]; exact hz), fun q h1 h2 => by rw [e1, hk q (Nat.lt_of_lt_of_le h1 hS.1) h2]; exact hS.2.1 q h1 h2, fun q hq => by
      rcases List.mem_append.mp hq with h | h
      · exact hS.2.2 q h
      · exact hL q h⟩ T' rfl X'
  exact ⟨t2, st t2 a1, b1⟩
theorem mx_blind {dom : List Nat} {ad : Nat → Nat} {D : va_G} {dA : Nat → ClassId} {h : mh_H} {av : List Value} : FrameBlind (va_Pc av (fun U => mx_P dom ad D dA h U.heap ∧ mh_K D dA U)) := fun a U g mk q => ⟨q.1, q.2.1, mh_K.same (s := U) (U := U.calling g mk a) rfl q.2.2⟩
def mx_V (own : String) (z : mt_I) (idx ci n : Nat) : Prop := Cond.methodLink own idx z.1 ∈ tb_w ∧ Cond.instanceMethod z.1 ∈ tb_w ∧ Cond.selects z.1.cls z.1 z.1 ∈ tb_w ∧ Cond.initialized z.1.cls ∈ tb_w ∧ Cond.code z.1 z.2.1 z.2.2.1 z.2.2.2 ∈ tb_w ∧ (z.1.cls ≠ "java/lang/invoke/MethodHandle" ∧ z.1.cls ≠ "java/lang/invoke/VarHandle" ∧ (parseMethodDescriptor z.1.desc).map (fun d => d.parameters.length) = some n) ∧ z.2.2.1 ≤ 41 ∧ ci < 99 ∧ ∃ q, vwCl[ci]? = some q ∧ q.1 = z.1.cls
def mx_S (own : String) (z : mt_I) (idx n : Nat) : Prop := Cond.methodLink own idx z.1 ∈ tb_w ∧ Cond.static z.1 ∈ tb_w ∧ Cond.initialized z.1.cls ∈ tb_w ∧ Cond.code z.1 z.2.1 z.2.2.1 z.2.2.2 ∈ tb_w ∧ (z.1.cls ≠ "java/lang/invoke/MethodHandle" ∧ z.1.cls ≠ "java/lang/invoke/VarHandle" ∧ (parseMethodDescriptor z.1.desc).map (fun d => d.parameters.length) = some n) ∧ z.2.2.1 ≤ 41
def mx_N (own : String) (z : mt_I) (idx n : Nat) : Prop := (∃ host, (own, idx, z.1, host) ∈ mh_nest) ∧ Cond.static z.1 ∈ tb_w ∧ Cond.initialized z.1.cls ∈ tb_w ∧ Cond.code z.1 z.2.1 z.2.2.1 z.2.2.2 ∈ tb_w ∧ (z.1.cls ≠ "java/lang/invoke/MethodHandle" ∧ z.1.cls ≠ "java/lang/invoke/VarHandle" ∧ (parseMethodDescriptor z.1.desc).map (fun d => d.parameters.length) = some n) ∧ z.2.2.1 ≤ 41
theorem mx_cat (ad : Nat → Nat) (st : List Value) : ((st.map (mh_v ad)).map fun v => v.category).sum = (st.map fun v => v.category).sum := by
  rw [List.map_map]
  congr 1
  exact List.map_congr_left (fun v _ => mh_v_cat ad v)
theorem mx_rmle {d d' n : Nat} (hd : d' + 1 ≤ d) (hn : n ≤ 41) : (mx_rm d').frames + 1 ≤ (mx_rm d).frames ∧ 8 + (n + 11) + (mx_rm d').locals ≤ (mx_rm d).locals := ⟨hd, by show 8 + (n + 11) + 60 * d' ≤ 60 * d; omega⟩
theorem ax_callV {idx ci n d' b : Nat} {As fs : List Value} {Qc : Option Value → mh_H → Prop} (hs : mx_V y.1.cls z idx ci n) (hd : decode y.2.1 pc = .ok (.invokevirtual idx, 3)) (hdd : d' + 1 ≤ d) (ha : h b = mh_ob ci fs) (hn : As.length = n) (hcat : (rest.map fun v => v.category).sum ≤ 8) (hM : Mt z dom d' (.ref b :: As) h Qc)
    (K : ∀ r h', Qc r h' → At y dom d (pc + 3) L (r.toList ++ rest) h' Q) : At y dom d pc L (As.reverse ++ .ref b :: rest) h Q := by
  intro ad D dA p l e s m args below meth c H locs ls hC hP hS hl
  obtain ⟨s1, s2, s3, s4, s5, s6, s7, s8, q, s9, s10⟩ := hs
  obtain ⟨q0, g1, g2⟩ := mx_ob hP ha s8
  have hG : GoodIn tb_w (wsV y.1.cls idx z.1.cls z.1 (mx_ws z)) := by
    intro w hw
    have : w ∈ tb_w := by
      simp only [wsV, mx_ws, List.mem_append, List.mem_cons, List.not_mem_nil, or_false] at hw
      rcases hw with (rfl | rfl | rfl | rfl) | (rfl | hw)
      · exact s1
      · exact s2
      · exact s3
      · exact s4
      · exact s5
      · exact hw
    exact ⟨this, tb_good this⟩
  have hrecv := va_recv hC.2.2.2.2.2.2.2.1 hP.1 (ci := ci) (q0 := q0) s9 g2
  rw [s10] at hrecv
  refine mx_call (va_runV (g := F0 m pc ls ((As.reverse ++ .ref b :: rest).map (mh_v ad))) (As := As.map (mh_v ad)) (rest := rest.map (mh_v ad)) (b := ad b) ⟨hC.1, hC.2.1, hC.2.2.2.1, hC.2.2.2.2.1, hC.2.2.2.2.2.1⟩ (hM ad D dA l) (cwV n hC.2.2.2.2.2.1 hG rfl rfl rfl ⟨rfl, s6⟩ (mx_rmle hdd s7)) ⟨mx_blind, hrecv, fun U hU hW => ⟨rfl, by rw [hU]; exact hP, hC.2.2.2.2.2.2.2.warm hW⟩⟩ rfl (by rw [List.length_map]; exact hn) hl.1 (by simp [List.map_append, List.map_reverse, mh_v]) (lv_room (by rw [mx_cat]; exact hcat)) hd ⟨Nat.le_refl _, Nat.le_refl _⟩) hS (fun r h' H1 locs1 hq hP1 hS1 => ?_)
  have K1 := K r h' hq ad D dA p l e s m args below meth c H1 locs1 ls hC hP1 hS1 hl
  rw [List.map_append] at K1
  cases r <;> exact K1
theorem ax_callS {idx n d' : Nat} {As : List Value} {Qc : Option Value → mh_H → Prop} (hs : mx_S y.1.cls z idx n) (hd : decode y.2.1 pc = .ok (.invokestatic idx, 3)) (hdd : d' + 1 ≤ d) (hn : As.length = n) (hcat : (rest.map fun v => v.category).sum ≤ 8) (hM : Mt z dom d' As h Qc)
    (K : ∀ r h', Qc r h' → At y dom d (pc + 3) L (r.toList ++ rest) h' Q) : At y dom d pc L (As.reverse ++ rest) h Q := by
  intro ad D dA p l e s m args below meth c H locs ls hC hP hS hl
  obtain ⟨s1, s2, s4, s5, s6, s7⟩ := hs
  have hG : GoodIn tb_w (va_wsS y.1.cls idx z.1 (mx_ws z)) := by
    intro w hw
    have : w ∈ tb_w := by
      simp only [va_wsS, mx_ws, List.mem_append, List.mem_cons, List.not_mem_nil, or_false] at hw
      rcases hw with (rfl | rfl | rfl) | (rfl | hw)
      · exact s1
      · exact s2
      · exact s4
      · exact s5
      · exact hw
    exact ⟨this, tb_good this⟩
  refine mx_call (va_runS (g := F0 m pc ls ((As.reverse ++ rest).map (mh_v ad))) (As := As.map (mh_v ad)) (rest := rest.map (mh_v ad)) ⟨hC.1, hC.2.1, hC.2.2.2.1, hC.2.2.2.2.1, hC.2.2.2.2.2.1⟩ (hM ad D dA l) (va_cwS n hC.2.2.2.2.2.1 hG rfl rfl rfl s6 (mx_rmle hdd s7)) ⟨mx_blind, fun U hU hW => ⟨rfl, by rw [hU]; exact hP, hC.2.2.2.2.2.2.2.warm hW⟩⟩ rfl (by rw [List.length_map]; exact hn) hl.1 (by simp [List.map_append, List.map_reverse]) (lv_room (by rw [mx_cat]; exact hcat)) hd ⟨Nat.le_refl _, Nat.le_refl _⟩) hS (fun r h' H1 locs1 hq hP1 hS1 => ?_)
  have K1 := K r h' hq ad D dA p l e s m args below meth c H1 locs1 ls hC hP1 hS1 hl
  rw [List.map_append] at K1
  cases r <;> exact K1
theorem ax_callN {idx n d' : Nat} {As : List Value} {Qc : Option Value → mh_H → Prop} (hs : mx_N y.1.cls z idx n) (hd : decode y.2.1 pc = .ok (.invokestatic idx, 3)) (hdd : d' + 1 ≤ d) (hn : As.length = n) (hcat : (rest.map fun v => v.category).sum ≤ 8) (hM : Mt z dom d' As h Qc)
    (K : ∀ r h', Qc r h' → At y dom d (pc + 3) L (r.toList ++ rest) h' Q) : At y dom d pc L (As.reverse ++ rest) h Q := by
  intro ad D dA p l e s m args below meth c H locs ls hC hP hS hl
  obtain ⟨⟨host, s1⟩, s2, s4, s5, s6, s7⟩ := hs
  have hG : GoodIn tb_w (mx_ws z) := by
    intro w hw
    have : w ∈ tb_w := by
      simp only [mx_ws, List.mem_cons] at hw
      rcases hw with rfl | hw
      · exact s5
      · exact hw
    exact ⟨this, tb_good this⟩
  refine mx_call (va_runSN (host := host) (g := F0 m pc ls ((As.reverse ++ rest).map (mh_v ad))) (As := As.map (mh_v ad)) (rest := rest.map (mh_v ad)) ⟨hC.1, hC.2.1, hC.2.2.2.1, hC.2.2.2.2.1, hC.2.2.2.2.2.1⟩ (hM ad D dA l) ⟨va_cnB n hC.2.2.2.2.2.1 hG rfl rfl rfl (hC.2.2.2.2.2.2.2.2 _ s1) (hC.2.2.2.2.2.1 _ s4) s6 (mx_rmle hdd s7), hC.2.2.2.2.2.1 _ s2, trivial⟩ ⟨mx_blind, fun U hU hW => ⟨rfl, by rw [hU]; exact hP, hC.2.2.2.2.2.2.2.warm hW⟩⟩ rfl (by rw [List.length_map]; exact hn) hl.1 (by simp [List.map_append, List.map_reverse]) (lv_room (by rw [mx_cat]; exact hcat)) hd ⟨Nat.le_refl _, Nat.le_refl _⟩) hS (fun r h' H1 locs1 hq hP1 hS1 => ?_)
  have K1 := K r h' hq ad D dA p l e s m args below meth c H1 locs1 ls hC hP1 hS1 hl
  rw [List.map_append] at K1
  cases r <;> exact K1
theorem ax_max {idx : Nat} {x y0 : Int32} (hs : Cond.methodLink y.1.cls idx Lib.Math.max.name ∈ tb_w) (hd : decode y.2.1 pc = .ok (.invokestatic idx, 3)) (hdd : 1 ≤ d) (hcat : (st.map fun v => v.category).sum ≤ 8) (hw : Cond.static Lib.Math.max.name ∈ tb_w ∧ Cond.initialized "java/lang/Math" ∈ tb_w ∧ Cond.code Lib.Math.max.name Lib.Math.max.code 2 (some .int) ∈ tb_w) (K : At y dom d (pc + 3) L (.int (if x < y0 then y0 else x) :: st) h Q) : At y dom d pc L (.int y0 :: .int x :: st) h Q := by
  intro ad D dA p l e s m args below meth c H locs ls hC hP hS hl
  exact va_mmax (ls := ls) hC.1 hC.2.1 (hC.2.2.2.1.trans hl.1.symm) hC.2.2.2.2.1 (hC.2.2.2.2.2.1 _ hs) (hC.2.2.2.2.2.1 _ hw.1) (hC.2.2.2.2.2.1 _ hw.2.1) (hC.2.2.2.2.2.1 _ hw.2.2) hdd (by rw [mx_cat]; show _ ≤ 60 * d; omega) (Nat.le_refl _) (Nat.le_refl _) hd (K ad D dA p l e s m args below meth c H locs ls hC hP hS hl)
theorem ax_min {idx : Nat} {x y0 : Int32} (hs : Cond.methodLink y.1.cls idx Lib.Math.min.name ∈ tb_w) (hd : decode y.2.1 pc = .ok (.invokestatic idx, 3)) (hdd : 1 ≤ d) (hcat : (st.map fun v => v.category).sum ≤ 8) (hw : Cond.static Lib.Math.min.name ∈ tb_w ∧ Cond.initialized "java/lang/Math" ∈ tb_w ∧ Cond.code Lib.Math.min.name Lib.Math.min.code 2 (some .int) ∈ tb_w) (K : At y dom d (pc + 3) L (.int (if y0 < x then y0 else x) :: st) h Q) : At y dom d pc L (.int y0 :: .int x :: st) h Q := by
  intro ad D dA p l e s m args below meth c H locs ls hC hP hS hl
  exact va_mmin (ls := ls) hC.1 hC.2.1 (hC.2.2.2.1.trans hl.1.symm) hC.2.2.2.2.1 (hC.2.2.2.2.2.1 _ hs) (hC.2.2.2.2.2.1 _ hw.1) (hC.2.2.2.2.2.1 _ hw.2.1) (hC.2.2.2.2.2.1 _ hw.2.2) hdd (by rw [mx_cat]; show _ ≤ 60 * d; omega) (Nat.le_refl _) (Nat.le_refl _) hd (K ad D dA p l e s m args below meth c H locs ls hC hP hS hl)
theorem ax_acopy {idx a b n0 n1 : Nat} {f g : Nat → Int32} {sp dp n : Int32} (hs : Cond.methodLink y.1.cls idx arraycopyName ∈ tb_w) (hd : decode y.2.1 pc = .ok (.invokestatic idx, 3)) (hdd : 1 ≤ d) (hcat : (st.map fun v => v.category).sum ≤ 8) (hw : Cond.native arraycopyName ∈ tb_w ∧ Cond.static arraycopyName ∈ tb_w ∧ Cond.initialized "java/lang/System" ∈ tb_w) (ha : h a = mh_ia 0 n0 f) (hb : h b = mh_ia 0 n1 g) (h1 : ¬ sp < 0) (h2 : ¬ dp < 0) (h3 : ¬ n < 0) (h4 : sp.toNatClampNeg + n.toNatClampNeg ≤ n0) (h5 : dp.toNatClampNeg + n.toNatClampNeg ≤ n1) (K : At y dom d (pc + 3) L st (mh_up h b (mh_ia 0 n1 (va_cpy f g sp.toNatClampNeg dp.toNatClampNeg n.toNatClampNeg))) Q) : At y dom d pc L (.int n :: .int dp :: .ref b :: .int sp :: .ref a :: st) h Q := by
  intro ad D dA p l e s m args below meth c H locs ls hC hP hS hl
  obtain ⟨q0, g1, g2⟩ := mx_ia hP ha
  obtain ⟨q1, g3, g4⟩ := mx_ia hP hb
  have hlc : ((st.map (mh_v ad)).map fun v => v.category).sum + (nativeFrameWords "java/lang/System" "arraycopy" 5 + 11) ≤ (mx_rm d).locals := by
    rw [mx_cat]
    have : nativeFrameWords "java/lang/System" "arraycopy" 5 ≤ 20 := by decide +kernel
    show _ ≤ 60 * d
    omega
  refine va_copyi (ls := ls) (ty := .int) hC.1 hC.2.1 (hC.2.2.2.1.trans hl.1.symm) hC.2.2.2.2.1 (hC.2.2.2.2.2.1 _ hs) (hC.2.2.2.2.2.1 _ hw.1) (hC.2.2.2.2.2.1 _ hw.2.1) (hC.2.2.2.2.2.1 _ hw.2.2) hC.2.2.2.2.2.2.2.1 hP.1 hP.2.1 hS q0 q1 0 0 g2 g4 (mh_tys_at dA (by decide)) (mh_tys_at dA (by decide)) rfl h1 h2 h3 h4 h5 (fun _ _ => rfl) hdd hlc hd (fun H1 locs1 e1 e2 hS => ?_)
  exact K ad D dA p l e s m args below meth c H1 locs1 ls hC (mx_new hP g3 (mh_ia 0 n1 (va_cpy f g sp.toNatClampNeg dp.toNatClampNeg n.toNatClampNeg)) e1 e2) hS hl
theorem ax_puti0 {idx ci a : Nat} {f0 : Value} {r : List Value} {x : Int32} (hf : mx_G y.1.cls idx ci 0 .int) (hd : decode y.2.1 pc = .ok (.putfield idx, 3)) (ha : h a = mh_ob ci (f0 :: r)) (K : At y dom d (pc + 3) L st (mh_up h a (mh_ob ci (.int x :: r))) Q) : At y dom d pc L (.int x :: .ref a :: st) h Q := ax_put hf hd ha rfl rfl (fun _ => rfl) (by simp only [List.length_cons]; omega) K
theorem ax_puti0u {idx ci a : Nat} {f0 : Value} {r : List Value} {x : Int32} (hf : mx_G y.1.cls idx ci 0 .int) (hd : decode y.2.1 pc = .ok (.putfield idx, 3)) (K : At y dom d (pc + 3) L st (mh_up h a (mh_ob ci (.int x :: r))) Q) : At y dom d pc L (.int x :: .ref a :: st) (mh_up h a (mh_ob ci (f0 :: r))) Q := ax_puti0 hf hd mh_up_s (At.hp mh_up_uu K)
theorem ax_puti1 {idx ci a : Nat} {f0 f1 : Value} {r : List Value} {x : Int32} (hf : mx_G y.1.cls idx ci 1 .int) (hd : decode y.2.1 pc = .ok (.putfield idx, 3)) (ha : h a = mh_ob ci (f0 :: f1 :: r)) (K : At y dom d (pc + 3) L st (mh_up h a (mh_ob ci (f0 :: .int x :: r))) Q) : At y dom d pc L (.int x :: .ref a :: st) h Q := ax_put hf hd ha rfl rfl (fun _ => rfl) (by simp only [List.length_cons]; omega) K
theorem ax_puti1u {idx ci a : Nat} {f0 f1 : Value} {r : List Value} {x : Int32} (hf : mx_G y.1.cls idx ci 1 .int) (hd : decode y.2.1 pc = .ok (.putfield idx, 3)) (K : At y dom d (pc + 3) L st (mh_up h a (mh_ob ci (f0 :: .int x :: r))) Q) : At y dom d pc L (.int x :: .ref a :: st) (mh_up h a (mh_ob ci (f0 :: f1 :: r))) Q := ax_puti1 hf hd mh_up_s (At.hp mh_up_uu K)
theorem ax_puti2 {idx ci a : Nat} {f0 f1 f2 : Value} {r : List Value} {x : Int32} (hf : mx_G y.1.cls idx ci 2 .int) (hd : decode y.2.1 pc = .ok (.putfield idx, 3)) (ha : h a = mh_ob ci (f0 :: f1 :: f2 :: r)) (K : At y dom d (pc + 3) L st (mh_up h a (mh_ob ci (f0 :: f1 :: .int x :: r))) Q) : At y dom d pc L (.int x :: .ref a :: st) h Q := ax_put hf hd ha rfl rfl (fun _ => rfl) (by simp only [List.length_cons]; omega) K
theorem ax_puti2u {idx ci a : Nat} {f0 f1 f2 : Value} {r : List Value} {x : Int32} (hf : mx_G y.1.cls idx ci 2 .int) (hd : decode y.2.1 pc = .ok (.putfield idx, 3)) (K : At y dom d (pc + 3) L st (mh_up h a (mh_ob ci (f0 :: f1 :: .int x :: r))) Q) : At y dom d pc L (.int x :: .ref a :: st) (mh_up h a (mh_ob ci (f0 :: f1 :: f2 :: r))) Q := ax_puti2 hf hd mh_up_s (At.hp mh_up_uu K)
theorem ax_puti3 {idx ci a : Nat} {f0 f1 f2 f3 : Value} {r : List Value} {x : Int32} (hf : mx_G y.1.cls idx ci 3 .int) (hd : decode y.2.1 pc = .ok (.putfield idx, 3)) (ha : h a = mh_ob ci (f0 :: f1 :: f2 :: f3 :: r)) (K : At y dom d (pc + 3) L st (mh_up h a (mh_ob ci (f0 :: f1 :: f2 :: .int x :: r))) Q) : At y dom d pc L (.int x :: .ref a :: st) h Q := ax_put hf hd ha rfl rfl (fun _ => rfl) (by simp only [List.length_cons]; omega) K
theorem ax_puti3u {idx ci a : Nat} {f0 f1 f2 f3 : Value} {r : List Value} {x : Int32} (hf : mx_G y.1.cls idx ci 3 .int) (hd : decode y.2.1 pc = .ok (.putfield idx, 3)) (K : At y dom d (pc + 3) L st (mh_up h a (mh_ob ci (f0 :: f1 :: f2 :: .int x :: r))) Q) : At y dom d pc L (.int x :: .ref a :: st) (mh_up h a (mh_ob ci (f0 :: f1 :: f2 :: f3 :: r))) Q := ax_puti3 hf hd mh_up_s (At.hp mh_up_uu K)
theorem ax_puti4 {idx ci a : Nat} {f0 f1 f2 f3 f4 : Value} {r : List Value} {x : Int32} (hf : mx_G y.1.cls idx ci 4 .int) (hd : decode y.2.1 pc = .ok (.putfield idx, 3)) (ha : h a = mh_ob ci (f0 :: f1 :: f2 :: f3 :: f4 :: r)) (K : At y dom d (pc + 3) L st (mh_up h a (mh_ob ci (f0 :: f1 :: f2 :: f3 :: .int x :: r))) Q) : At y dom d pc L (.int x :: .ref a :: st) h Q := ax_put hf hd ha rfl rfl (fun _ => rfl) (by simp only [List.length_cons]; omega) K
theorem ax_puti4u {idx ci a : Nat} {f0 f1 f2 f3 f4 : Value} {r : List Value} {x : Int32} (hf : mx_G y.1.cls idx ci 4 .int) (hd : decode y.2.1 pc = .ok (.putfield idx, 3)) (K : At y dom d (pc + 3) L st (mh_up h a (mh_ob ci (f0 :: f1 :: f2 :: f3 :: .int x :: r))) Q) : At y dom d pc L (.int x :: .ref a :: st) (mh_up h a (mh_ob ci (f0 :: f1 :: f2 :: f3 :: f4 :: r))) Q := ax_puti4 hf hd mh_up_s (At.hp mh_up_uu K)
theorem ax_puti5 {idx ci a : Nat} {f0 f1 f2 f3 f4 f5 : Value} {r : List Value} {x : Int32} (hf : mx_G y.1.cls idx ci 5 .int) (hd : decode y.2.1 pc = .ok (.putfield idx, 3)) (ha : h a = mh_ob ci (f0 :: f1 :: f2 :: f3 :: f4 :: f5 :: r)) (K : At y dom d (pc + 3) L st (mh_up h a (mh_ob ci (f0 :: f1 :: f2 :: f3 :: f4 :: .int x :: r))) Q) : At y dom d pc L (.int x :: .ref a :: st) h Q := ax_put hf hd ha rfl rfl (fun _ => rfl) (by simp only [List.length_cons]; omega) K
theorem ax_puti5u {idx ci a : Nat} {f0 f1 f2 f3 f4 f5 : Value} {r : List Value} {x : Int32} (hf : mx_G y.1.cls idx ci 5 .int) (hd : decode y.2.1 pc = .ok (.putfield idx, 3)) (K : At y dom d (pc + 3) L st (mh_up h a (mh_ob ci (f0 :: f1 :: f2 :: f3 :: f4 :: .int x :: r))) Q) : At y dom d pc L (.int x :: .ref a :: st) (mh_up h a (mh_ob ci (f0 :: f1 :: f2 :: f3 :: f4 :: f5 :: r))) Q := ax_puti5 hf hd mh_up_s (At.hp mh_up_uu K)
theorem ax_puti6 {idx ci a : Nat} {f0 f1 f2 f3 f4 f5 f6 : Value} {r : List Value} {x : Int32} (hf : mx_G y.1.cls idx ci 6 .int) (hd : decode y.2.1 pc = .ok (.putfield idx, 3)) (ha : h a = mh_ob ci (f0 :: f1 :: f2 :: f3 :: f4 :: f5 :: f6 :: r)) (K : At y dom d (pc + 3) L st (mh_up h a (mh_ob ci (f0 :: f1 :: f2 :: f3 :: f4 :: f5 :: .int x :: r))) Q) : At y dom d pc L (.int x :: .ref a :: st) h Q := ax_put hf hd ha rfl rfl (fun _ => rfl) (by simp only [List.length_cons]; omega) K
theorem ax_puti6u {idx ci a : Nat} {f0 f1 f2 f3 f4 f5 f6 : Value} {r : List Value} {x : Int32} (hf : mx_G y.1.cls idx ci 6 .int) (hd : decode y.2.1 pc = .ok (.putfield idx, 3)) (K : At y dom d (pc + 3) L st (mh_up h a (mh_ob ci (f0 :: f1 :: f2 :: f3 :: f4 :: f5 :: .int x :: r))) Q) : At y dom d pc L (.int x :: .ref a :: st) (mh_up h a (mh_ob ci (f0 :: f1 :: f2 :: f3 :: f4 :: f5 :: f6 :: r))) Q := ax_puti6 hf hd mh_up_s (At.hp mh_up_uu K)
theorem ax_puti7 {idx ci a : Nat} {f0 f1 f2 f3 f4 f5 f6 f7 : Value} {r : List Value} {x : Int32} (hf : mx_G y.1.cls idx ci 7 .int) (hd : decode y.2.1 pc = .ok (.putfield idx, 3)) (ha : h a = mh_ob ci (f0 :: f1 :: f2 :: f3 :: f4 :: f5 :: f6 :: f7 :: r)) (K : At y dom d (pc + 3) L st (mh_up h a (mh_ob ci (f0 :: f1 :: f2 :: f3 :: f4 :: f5 :: f6 :: .int x :: r))) Q) : At y dom d pc L (.int x :: .ref a :: st) h Q := ax_put hf hd ha rfl rfl (fun _ => rfl) (by simp only [List.length_cons]; omega) K
theorem ax_puti7u {idx ci a : Nat} {f0 f1 f2 f3 f4 f5 f6 f7 : Value} {r : List Value} {x : Int32} (hf : mx_G y.1.cls idx ci 7 .int) (hd : decode y.2.1 pc = .ok (.putfield idx, 3)) (K : At y dom d (pc + 3) L st (mh_up h a (mh_ob ci (f0 :: f1 :: f2 :: f3 :: f4 :: f5 :: f6 :: .int x :: r))) Q) : At y dom d pc L (.int x :: .ref a :: st) (mh_up h a (mh_ob ci (f0 :: f1 :: f2 :: f3 :: f4 :: f5 :: f6 :: f7 :: r))) Q := ax_puti7 hf hd mh_up_s (At.hp mh_up_uu K)
theorem ax_puti8 {idx ci a : Nat} {f0 f1 f2 f3 f4 f5 f6 f7 f8 : Value} {r : List Value} {x : Int32} (hf : mx_G y.1.cls idx ci 8 .int) (hd : decode y.2.1 pc = .ok (.putfield idx, 3)) (ha : h a = mh_ob ci (f0 :: f1 :: f2 :: f3 :: f4 :: f5 :: f6 :: f7 :: f8 :: r)) (K : At y dom d (pc + 3) L st (mh_up h a (mh_ob ci (f0 :: f1 :: f2 :: f3 :: f4 :: f5 :: f6 :: f7 :: .int x :: r))) Q) : At y dom d pc L (.int x :: .ref a :: st) h Q := ax_put hf hd ha rfl rfl (fun _ => rfl) (by simp only [List.length_cons]; omega) K
theorem ax_puti8u {idx ci a : Nat} {f0 f1 f2 f3 f4 f5 f6 f7 f8 : Value} {r : List Value} {x : Int32} (hf : mx_G y.1.cls idx ci 8 .int) (hd : decode y.2.1 pc = .ok (.putfield idx, 3)) (K : At y dom d (pc + 3) L st (mh_up h a (mh_ob ci (f0 :: f1 :: f2 :: f3 :: f4 :: f5 :: f6 :: f7 :: .int x :: r))) Q) : At y dom d pc L (.int x :: .ref a :: st) (mh_up h a (mh_ob ci (f0 :: f1 :: f2 :: f3 :: f4 :: f5 :: f6 :: f7 :: f8 :: r))) Q := ax_puti8 hf hd mh_up_s (At.hp mh_up_uu K)
theorem ax_puti9 {idx ci a : Nat} {f0 f1 f2 f3 f4 f5 f6 f7 f8 f9 : Value} {r : List Value} {x : Int32} (hf : mx_G y.1.cls idx ci 9 .int) (hd : decode y.2.1 pc = .ok (.putfield idx, 3)) (ha : h a = mh_ob ci (f0 :: f1 :: f2 :: f3 :: f4 :: f5 :: f6 :: f7 :: f8 :: f9 :: r)) (K : At y dom d (pc + 3) L st (mh_up h a (mh_ob ci (f0 :: f1 :: f2 :: f3 :: f4 :: f5 :: f6 :: f7 :: f8 :: .int x :: r))) Q) : At y dom d pc L (.int x :: .ref a :: st) h Q := ax_put hf hd ha rfl rfl (fun _ => rfl) (by simp only [List.length_cons]; omega) K
theorem ax_puti9u {idx ci a : Nat} {f0 f1 f2 f3 f4 f5 f6 f7 f8 f9 : Value} {r : List Value} {x : Int32} (hf : mx_G y.1.cls idx ci 9 .int) (hd : decode y.2.1 pc = .ok (.putfield idx, 3)) (K : At y dom d (pc + 3) L st (mh_up h a (mh_ob ci (f0 :: f1 :: f2 :: f3 :: f4 :: f5 :: f6 :: f7 :: f8 :: .int x :: r))) Q) : At y dom d pc L (.int x :: .ref a :: st) (mh_up h a (mh_ob ci (f0 :: f1 :: f2 :: f3 :: f4 :: f5 :: f6 :: f7 :: f8 :: f9 :: r))) Q := ax_puti9 hf hd mh_up_s (At.hp mh_up_uu K)
theorem ax_puti10 {idx ci a : Nat} {f0 f1 f2 f3 f4 f5 f6 f7 f8 f9 f10 : Value} {r : List Value} {x : Int32} (hf : mx_G y.1.cls idx ci 10 .int) (hd : decode y.2.1 pc = .ok (.putfield idx, 3)) (ha : h a = mh_ob ci (f0 :: f1 :: f2 :: f3 :: f4 :: f5 :: f6 :: f7 :: f8 :: f9 :: f10 :: r)) (K : At y dom d (pc + 3) L st (mh_up h a (mh_ob ci (f0 :: f1 :: f2 :: f3 :: f4 :: f5 :: f6 :: f7 :: f8 :: f9 :: .int x :: r))) Q) : At y dom d pc L (.int x :: .ref a :: st) h Q := ax_put hf hd ha rfl rfl (fun _ => rfl) (by simp only [List.length_cons]; omega) K
theorem ax_puti10u {idx ci a : Nat} {f0 f1 f2 f3 f4 f5 f6 f7 f8 f9 f10 : Value} {r : List Value} {x : Int32} (hf : mx_G y.1.cls idx ci 10 .int) (hd : decode y.2.1 pc = .ok (.putfield idx, 3)) (K : At y dom d (pc + 3) L st (mh_up h a (mh_ob ci (f0 :: f1 :: f2 :: f3 :: f4 :: f5 :: f6 :: f7 :: f8 :: f9 :: .int x :: r))) Q) : At y dom d pc L (.int x :: .ref a :: st) (mh_up h a (mh_ob ci (f0 :: f1 :: f2 :: f3 :: f4 :: f5 :: f6 :: f7 :: f8 :: f9 :: f10 :: r))) Q := ax_puti10 hf hd mh_up_s (At.hp mh_up_uu K)
theorem ax_putl10 {idx ci a : Nat} {f0 f1 f2 f3 f4 f5 f6 f7 f8 f9 f10 : Value} {r : List Value} {x : Int64} (hf : mx_G y.1.cls idx ci 10 .long) (hd : decode y.2.1 pc = .ok (.putfield idx, 3)) (ha : h a = mh_ob ci (f0 :: f1 :: f2 :: f3 :: f4 :: f5 :: f6 :: f7 :: f8 :: f9 :: f10 :: r)) (K : At y dom d (pc + 3) L st (mh_up h a (mh_ob ci (f0 :: f1 :: f2 :: f3 :: f4 :: f5 :: f6 :: f7 :: f8 :: f9 :: .long x :: r))) Q) : At y dom d pc L (.long x :: .ref a :: st) h Q := ax_put hf hd ha rfl rfl (fun _ => rfl) (by simp only [List.length_cons]; omega) K
theorem ax_putl10u {idx ci a : Nat} {f0 f1 f2 f3 f4 f5 f6 f7 f8 f9 f10 : Value} {r : List Value} {x : Int64} (hf : mx_G y.1.cls idx ci 10 .long) (hd : decode y.2.1 pc = .ok (.putfield idx, 3)) (K : At y dom d (pc + 3) L st (mh_up h a (mh_ob ci (f0 :: f1 :: f2 :: f3 :: f4 :: f5 :: f6 :: f7 :: f8 :: f9 :: .long x :: r))) Q) : At y dom d pc L (.long x :: .ref a :: st) (mh_up h a (mh_ob ci (f0 :: f1 :: f2 :: f3 :: f4 :: f5 :: f6 :: f7 :: f8 :: f9 :: f10 :: r))) Q := ax_putl10 hf hd mh_up_s (At.hp mh_up_uu K)
theorem ax_puti11 {idx ci a : Nat} {f0 f1 f2 f3 f4 f5 f6 f7 f8 f9 f10 f11 : Value} {r : List Value} {x : Int32} (hf : mx_G y.1.cls idx ci 11 .int) (hd : decode y.2.1 pc = .ok (.putfield idx, 3)) (ha : h a = mh_ob ci (f0 :: f1 :: f2 :: f3 :: f4 :: f5 :: f6 :: f7 :: f8 :: f9 :: f10 :: f11 :: r)) (K : At y dom d (pc + 3) L st (mh_up h a (mh_ob ci (f0 :: f1 :: f2 :: f3 :: f4 :: f5 :: f6 :: f7 :: f8 :: f9 :: f10 :: .int x :: r))) Q) : At y dom d pc L (.int x :: .ref a :: st) h Q := ax_put hf hd ha rfl rfl (fun _ => rfl) (by simp only [List.length_cons]; omega) K
theorem ax_puti11u {idx ci a : Nat} {f0 f1 f2 f3 f4 f5 f6 f7 f8 f9 f10 f11 : Value} {r : List Value} {x : Int32} (hf : mx_G y.1.cls idx ci 11 .int) (hd : decode y.2.1 pc = .ok (.putfield idx, 3)) (K : At y dom d (pc + 3) L st (mh_up h a (mh_ob ci (f0 :: f1 :: f2 :: f3 :: f4 :: f5 :: f6 :: f7 :: f8 :: f9 :: f10 :: .int x :: r))) Q) : At y dom d pc L (.int x :: .ref a :: st) (mh_up h a (mh_ob ci (f0 :: f1 :: f2 :: f3 :: f4 :: f5 :: f6 :: f7 :: f8 :: f9 :: f10 :: f11 :: r))) Q := ax_puti11 hf hd mh_up_s (At.hp mh_up_uu K)
theorem ax_putl11 {idx ci a : Nat} {f0 f1 f2 f3 f4 f5 f6 f7 f8 f9 f10 f11 : Value} {r : List Value} {x : Int64} (hf : mx_G y.1.cls idx ci 11 .long) (hd : decode y.2.1 pc = .ok (.putfield idx, 3)) (ha : h a = mh_ob ci (f0 :: f1 :: f2 :: f3 :: f4 :: f5 :: f6 :: f7 :: f8 :: f9 :: f10 :: f11 :: r)) (K : At y dom d (pc + 3) L st (mh_up h a (mh_ob ci (f0 :: f1 :: f2 :: f3 :: f4 :: f5 :: f6 :: f7 :: f8 :: f9 :: f10 :: .long x :: r))) Q) : At y dom d pc L (.long x :: .ref a :: st) h Q := ax_put hf hd ha rfl rfl (fun _ => rfl) (by simp only [List.length_cons]; omega) K
theorem ax_putl11u {idx ci a : Nat} {f0 f1 f2 f3 f4 f5 f6 f7 f8 f9 f10 f11 : Value} {r : List Value} {x : Int64} (hf : mx_G y.1.cls idx ci 11 .long) (hd : decode y.2.1 pc = .ok (.putfield idx, 3)) (K : At y dom d (pc + 3) L st (mh_up h a (mh_ob ci (f0 :: f1 :: f2 :: f3 :: f4 :: f5 :: f6 :: f7 :: f8 :: f9 :: f10 :: .long x :: r))) Q) : At y dom d pc L (.long x :: .ref a :: st) (mh_up h a (mh_ob ci (f0 :: f1 :: f2 :: f3 :: f4 :: f5 :: f6 :: f7 :: f8 :: f9 :: f10 :: f11 :: r))) Q := ax_putl11 hf hd mh_up_s (At.hp mh_up_uu K)
theorem ax_puti12 {idx ci a : Nat} {f0 f1 f2 f3 f4 f5 f6 f7 f8 f9 f10 f11 f12 : Value} {r : List Value} {x : Int32} (hf : mx_G y.1.cls idx ci 12 .int) (hd : decode y.2.1 pc = .ok (.putfield idx, 3)) (ha : h a = mh_ob ci (f0 :: f1 :: f2 :: f3 :: f4 :: f5 :: f6 :: f7 :: f8 :: f9 :: f10 :: f11 :: f12 :: r)) (K : At y dom d (pc + 3) L st (mh_up h a (mh_ob ci (f0 :: f1 :: f2 :: f3 :: f4 :: f5 :: f6 :: f7 :: f8 :: f9 :: f10 :: f11 :: .int x :: r))) Q) : At y dom d pc L (.int x :: .ref a :: st) h Q := ax_put hf hd ha rfl rfl (fun _ => rfl) (by simp only [List.length_cons]; omega) K
theorem ax_puti12u {idx ci a : Nat} {f0 f1 f2 f3 f4 f5 f6 f7 f8 f9 f10 f11 f12 : Value} {r : List Value} {x : Int32} (hf : mx_G y.1.cls idx ci 12 .int) (hd : decode y.2.1 pc = .ok (.putfield idx, 3)) (K : At y dom d (pc + 3) L st (mh_up h a (mh_ob ci (f0 :: f1 :: f2 :: f3 :: f4 :: f5 :: f6 :: f7 :: f8 :: f9 :: f10 :: f11 :: .int x :: r))) Q) : At y dom d pc L (.int x :: .ref a :: st) (mh_up h a (mh_ob ci (f0 :: f1 :: f2 :: f3 :: f4 :: f5 :: f6 :: f7 :: f8 :: f9 :: f10 :: f11 :: f12 :: r))) Q := ax_puti12 hf hd mh_up_s (At.hp mh_up_uu K)
theorem ax_puti13 {idx ci a : Nat} {f0 f1 f2 f3 f4 f5 f6 f7 f8 f9 f10 f11 f12 f13 : Value} {r : List Value} {x : Int32} (hf : mx_G y.1.cls idx ci 13 .int) (hd : decode y.2.1 pc = .ok (.putfield idx, 3)) (ha : h a = mh_ob ci (f0 :: f1 :: f2 :: f3 :: f4 :: f5 :: f6 :: f7 :: f8 :: f9 :: f10 :: f11 :: f12 :: f13 :: r)) (K : At y dom d (pc + 3) L st (mh_up h a (mh_ob ci (f0 :: f1 :: f2 :: f3 :: f4 :: f5 :: f6 :: f7 :: f8 :: f9 :: f10 :: f11 :: f12 :: .int x :: r))) Q) : At y dom d pc L (.int x :: .ref a :: st) h Q := ax_put hf hd ha rfl rfl (fun _ => rfl) (by simp only [List.length_cons]; omega) K
theorem ax_puti13u {idx ci a : Nat} {f0 f1 f2 f3 f4 f5 f6 f7 f8 f9 f10 f11 f12 f13 : Value} {r : List Value} {x : Int32} (hf : mx_G y.1.cls idx ci 13 .int) (hd : decode y.2.1 pc = .ok (.putfield idx, 3)) (K : At y dom d (pc + 3) L st (mh_up h a (mh_ob ci (f0 :: f1 :: f2 :: f3 :: f4 :: f5 :: f6 :: f7 :: f8 :: f9 :: f10 :: f11 :: f12 :: .int x :: r))) Q) : At y dom d pc L (.int x :: .ref a :: st) (mh_up h a (mh_ob ci (f0 :: f1 :: f2 :: f3 :: f4 :: f5 :: f6 :: f7 :: f8 :: f9 :: f10 :: f11 :: f12 :: f13 :: r))) Q := ax_puti13 hf hd mh_up_s (At.hp mh_up_uu K)
theorem ax_puti14 {idx ci a : Nat} {f0 f1 f2 f3 f4 f5 f6 f7 f8 f9 f10 f11 f12 f13 f14 : Value} {r : List Value} {x : Int32} (hf : mx_G y.1.cls idx ci 14 .int) (hd : decode y.2.1 pc = .ok (.putfield idx, 3)) (ha : h a = mh_ob ci (f0 :: f1 :: f2 :: f3 :: f4 :: f5 :: f6 :: f7 :: f8 :: f9 :: f10 :: f11 :: f12 :: f13 :: f14 :: r)) (K : At y dom d (pc + 3) L st (mh_up h a (mh_ob ci (f0 :: f1 :: f2 :: f3 :: f4 :: f5 :: f6 :: f7 :: f8 :: f9 :: f10 :: f11 :: f12 :: f13 :: .int x :: r))) Q) : At y dom d pc L (.int x :: .ref a :: st) h Q := ax_put hf hd ha rfl rfl (fun _ => rfl) (by simp only [List.length_cons]; omega) K
theorem ax_puti14u {idx ci a : Nat} {f0 f1 f2 f3 f4 f5 f6 f7 f8 f9 f10 f11 f12 f13 f14 : Value} {r : List Value} {x : Int32} (hf : mx_G y.1.cls idx ci 14 .int) (hd : decode y.2.1 pc = .ok (.putfield idx, 3)) (K : At y dom d (pc + 3) L st (mh_up h a (mh_ob ci (f0 :: f1 :: f2 :: f3 :: f4 :: f5 :: f6 :: f7 :: f8 :: f9 :: f10 :: f11 :: f12 :: f13 :: .int x :: r))) Q) : At y dom d pc L (.int x :: .ref a :: st) (mh_up h a (mh_ob ci (f0 :: f1 :: f2 :: f3 :: f4 :: f5 :: f6 :: f7 :: f8 :: f9 :: f10 :: f11 :: f12 :: f13 :: f14 :: r))) Q := ax_puti14 hf hd mh_up_s (At.hp mh_up_uu K)
theorem ax_putl14 {idx ci a : Nat} {f0 f1 f2 f3 f4 f5 f6 f7 f8 f9 f10 f11 f12 f13 f14 : Value} {r : List Value} {x : Int64} (hf : mx_G y.1.cls idx ci 14 .long) (hd : decode y.2.1 pc = .ok (.putfield idx, 3)) (ha : h a = mh_ob ci (f0 :: f1 :: f2 :: f3 :: f4 :: f5 :: f6 :: f7 :: f8 :: f9 :: f10 :: f11 :: f12 :: f13 :: f14 :: r)) (K : At y dom d (pc + 3) L st (mh_up h a (mh_ob ci (f0 :: f1 :: f2 :: f3 :: f4 :: f5 :: f6 :: f7 :: f8 :: f9 :: f10 :: f11 :: f12 :: f13 :: .long x :: r))) Q) : At y dom d pc L (.long x :: .ref a :: st) h Q := ax_put hf hd ha rfl rfl (fun _ => rfl) (by simp only [List.length_cons]; omega) K
theorem ax_putl14u {idx ci a : Nat} {f0 f1 f2 f3 f4 f5 f6 f7 f8 f9 f10 f11 f12 f13 f14 : Value} {r : List Value} {x : Int64} (hf : mx_G y.1.cls idx ci 14 .long) (hd : decode y.2.1 pc = .ok (.putfield idx, 3)) (K : At y dom d (pc + 3) L st (mh_up h a (mh_ob ci (f0 :: f1 :: f2 :: f3 :: f4 :: f5 :: f6 :: f7 :: f8 :: f9 :: f10 :: f11 :: f12 :: f13 :: .long x :: r))) Q) : At y dom d pc L (.long x :: .ref a :: st) (mh_up h a (mh_ob ci (f0 :: f1 :: f2 :: f3 :: f4 :: f5 :: f6 :: f7 :: f8 :: f9 :: f10 :: f11 :: f12 :: f13 :: f14 :: r))) Q := ax_putl14 hf hd mh_up_s (At.hp mh_up_uu K)
theorem ax_puti15 {idx ci a : Nat} {f0 f1 f2 f3 f4 f5 f6 f7 f8 f9 f10 f11 f12 f13 f14 f15 : Value} {r : List Value} {x : Int32} (hf : mx_G y.1.cls idx ci 15 .int) (hd : decode y.2.1 pc = .ok (.putfield idx, 3)) (ha : h a = mh_ob ci (f0 :: f1 :: f2 :: f3 :: f4 :: f5 :: f6 :: f7 :: f8 :: f9 :: f10 :: f11 :: f12 :: f13 :: f14 :: f15 :: r)) (K : At y dom d (pc + 3) L st (mh_up h a (mh_ob ci (f0 :: f1 :: f2 :: f3 :: f4 :: f5 :: f6 :: f7 :: f8 :: f9 :: f10 :: f11 :: f12 :: f13 :: f14 :: .int x :: r))) Q) : At y dom d pc L (.int x :: .ref a :: st) h Q := ax_put hf hd ha rfl rfl (fun _ => rfl) (by simp only [List.length_cons]; omega) K
theorem ax_puti15u {idx ci a : Nat} {f0 f1 f2 f3 f4 f5 f6 f7 f8 f9 f10 f11 f12 f13 f14 f15 : Value} {r : List Value} {x : Int32} (hf : mx_G y.1.cls idx ci 15 .int) (hd : decode y.2.1 pc = .ok (.putfield idx, 3)) (K : At y dom d (pc + 3) L st (mh_up h a (mh_ob ci (f0 :: f1 :: f2 :: f3 :: f4 :: f5 :: f6 :: f7 :: f8 :: f9 :: f10 :: f11 :: f12 :: f13 :: f14 :: .int x :: r))) Q) : At y dom d pc L (.int x :: .ref a :: st) (mh_up h a (mh_ob ci (f0 :: f1 :: f2 :: f3 :: f4 :: f5 :: f6 :: f7 :: f8 :: f9 :: f10 :: f11 :: f12 :: f13 :: f14 :: f15 :: r))) Q := ax_puti15 hf hd mh_up_s (At.hp mh_up_uu K)
theorem ax_putl15 {idx ci a : Nat} {f0 f1 f2 f3 f4 f5 f6 f7 f8 f9 f10 f11 f12 f13 f14 f15 : Value} {r : List Value} {x : Int64} (hf : mx_G y.1.cls idx ci 15 .long) (hd : decode y.2.1 pc = .ok (.putfield idx, 3)) (ha : h a = mh_ob ci (f0 :: f1 :: f2 :: f3 :: f4 :: f5 :: f6 :: f7 :: f8 :: f9 :: f10 :: f11 :: f12 :: f13 :: f14 :: f15 :: r)) (K : At y dom d (pc + 3) L st (mh_up h a (mh_ob ci (f0 :: f1 :: f2 :: f3 :: f4 :: f5 :: f6 :: f7 :: f8 :: f9 :: f10 :: f11 :: f12 :: f13 :: f14 :: .long x :: r))) Q) : At y dom d pc L (.long x :: .ref a :: st) h Q := ax_put hf hd ha rfl rfl (fun _ => rfl) (by simp only [List.length_cons]; omega) K
theorem ax_putl15u {idx ci a : Nat} {f0 f1 f2 f3 f4 f5 f6 f7 f8 f9 f10 f11 f12 f13 f14 f15 : Value} {r : List Value} {x : Int64} (hf : mx_G y.1.cls idx ci 15 .long) (hd : decode y.2.1 pc = .ok (.putfield idx, 3)) (K : At y dom d (pc + 3) L st (mh_up h a (mh_ob ci (f0 :: f1 :: f2 :: f3 :: f4 :: f5 :: f6 :: f7 :: f8 :: f9 :: f10 :: f11 :: f12 :: f13 :: f14 :: .long x :: r))) Q) : At y dom d pc L (.long x :: .ref a :: st) (mh_up h a (mh_ob ci (f0 :: f1 :: f2 :: f3 :: f4 :: f5 :: f6 :: f7 :: f8 :: f9 :: f10 :: f11 :: f12 :: f13 :: f14 :: f15 :: r))) Q := ax_putl15 hf hd mh_up_s (At.hp mh_up_uu K)
theorem ax_puti16 {idx ci a : Nat} {f0 f1 f2 f3 f4 f5 f6 f7 f8 f9 f10 f11 f12 f13 f14 f15 f16 : Value} {r : List Value} {x : Int32} (hf : mx_G y.1.cls idx ci 16 .int) (hd : decode y.2.1 pc = .ok (.putfield idx, 3)) (ha : h a = mh_ob ci (f0 :: f1 :: f2 :: f3 :: f4 :: f5 :: f6 :: f7 :: f8 :: f9 :: f10 :: f11 :: f12 :: f13 :: f14 :: f15 :: f16 :: r)) (K : At y dom d (pc + 3) L st (mh_up h a (mh_ob ci (f0 :: f1 :: f2 :: f3 :: f4 :: f5 :: f6 :: f7 :: f8 :: f9 :: f10 :: f11 :: f12 :: f13 :: f14 :: f15 :: .int x :: r))) Q) : At y dom d pc L (.int x :: .ref a :: st) h Q := ax_put hf hd ha rfl rfl (fun _ => rfl) (by simp only [List.length_cons]; omega) K
theorem ax_puti16u {idx ci a : Nat} {f0 f1 f2 f3 f4 f5 f6 f7 f8 f9 f10 f11 f12 f13 f14 f15 f16 : Value} {r : List Value} {x : Int32} (hf : mx_G y.1.cls idx ci 16 .int) (hd : decode y.2.1 pc = .ok (.putfield idx, 3)) (K : At y dom d (pc + 3) L st (mh_up h a (mh_ob ci (f0 :: f1 :: f2 :: f3 :: f4 :: f5 :: f6 :: f7 :: f8 :: f9 :: f10 :: f11 :: f12 :: f13 :: f14 :: f15 :: .int x :: r))) Q) : At y dom d pc L (.int x :: .ref a :: st) (mh_up h a (mh_ob ci (f0 :: f1 :: f2 :: f3 :: f4 :: f5 :: f6 :: f7 :: f8 :: f9 :: f10 :: f11 :: f12 :: f13 :: f14 :: f15 :: f16 :: r))) Q := ax_puti16 hf hd mh_up_s (At.hp mh_up_uu K)
theorem ax_putl16 {idx ci a : Nat} {f0 f1 f2 f3 f4 f5 f6 f7 f8 f9 f10 f11 f12 f13 f14 f15 f16 : Value} {r : List Value} {x : Int64} (hf : mx_G y.1.cls idx ci 16 .long) (hd : decode y.2.1 pc = .ok (.putfield idx, 3)) (ha : h a = mh_ob ci (f0 :: f1 :: f2 :: f3 :: f4 :: f5 :: f6 :: f7 :: f8 :: f9 :: f10 :: f11 :: f12 :: f13 :: f14 :: f15 :: f16 :: r)) (K : At y dom d (pc + 3) L st (mh_up h a (mh_ob ci (f0 :: f1 :: f2 :: f3 :: f4 :: f5 :: f6 :: f7 :: f8 :: f9 :: f10 :: f11 :: f12 :: f13 :: f14 :: f15 :: .long x :: r))) Q) : At y dom d pc L (.long x :: .ref a :: st) h Q := ax_put hf hd ha rfl rfl (fun _ => rfl) (by simp only [List.length_cons]; omega) K
theorem ax_putl16u {idx ci a : Nat} {f0 f1 f2 f3 f4 f5 f6 f7 f8 f9 f10 f11 f12 f13 f14 f15 f16 : Value} {r : List Value} {x : Int64} (hf : mx_G y.1.cls idx ci 16 .long) (hd : decode y.2.1 pc = .ok (.putfield idx, 3)) (K : At y dom d (pc + 3) L st (mh_up h a (mh_ob ci (f0 :: f1 :: f2 :: f3 :: f4 :: f5 :: f6 :: f7 :: f8 :: f9 :: f10 :: f11 :: f12 :: f13 :: f14 :: f15 :: .long x :: r))) Q) : At y dom d pc L (.long x :: .ref a :: st) (mh_up h a (mh_ob ci (f0 :: f1 :: f2 :: f3 :: f4 :: f5 :: f6 :: f7 :: f8 :: f9 :: f10 :: f11 :: f12 :: f13 :: f14 :: f15 :: f16 :: r))) Q := ax_putl16 hf hd mh_up_s (At.hp mh_up_uu K)
theorem ax_puti17 {idx ci a : Nat} {f0 f1 f2 f3 f4 f5 f6 f7 f8 f9 f10 f11 f12 f13 f14 f15 f16 f17 : Value} {r : List Value} {x : Int32} (hf : mx_G y.1.cls idx ci 17 .int) (hd : decode y.2.1 pc = .ok (.putfield idx, 3)) (ha : h a = mh_ob ci (f0 :: f1 :: f2 :: f3 :: f4 :: f5 :: f6 :: f7 :: f8 :: f9 :: f10 :: f11 :: f12 :: f13 :: f14 :: f15 :: f16 :: f17 :: r)) (K : At y dom d (pc + 3) L st (mh_up h a (mh_ob ci (f0 :: f1 :: f2 :: f3 :: f4 :: f5 :: f6 :: f7 :: f8 :: f9 :: f10 :: f11 :: f12 :: f13 :: f14 :: f15 :: f16 :: .int x :: r))) Q) : At y dom d pc L (.int x :: .ref a :: st) h Q := ax_put hf hd ha rfl rfl (fun _ => rfl) (by simp only [List.length_cons]; omega) K
theorem ax_puti17u {idx ci a : Nat} {f0 f1 f2 f3 f4 f5 f6 f7 f8 f9 f10 f11 f12 f13 f14 f15 f16 f17 : Value} {r : List Value} {x : Int32} (hf : mx_G y.1.cls idx ci 17 .int) (hd : decode y.2.1 pc = .ok (.putfield idx, 3)) (K : At y dom d (pc + 3) L st (mh_up h a (mh_ob ci (f0 :: f1 :: f2 :: f3 :: f4 :: f5 :: f6 :: f7 :: f8 :: f9 :: f10 :: f11 :: f12 :: f13 :: f14 :: f15 :: f16 :: .int x :: r))) Q) : At y dom d pc L (.int x :: .ref a :: st) (mh_up h a (mh_ob ci (f0 :: f1 :: f2 :: f3 :: f4 :: f5 :: f6 :: f7 :: f8 :: f9 :: f10 :: f11 :: f12 :: f13 :: f14 :: f15 :: f16 :: f17 :: r))) Q := ax_puti17 hf hd mh_up_s (At.hp mh_up_uu K)
theorem ax_putl17 {idx ci a : Nat} {f0 f1 f2 f3 f4 f5 f6 f7 f8 f9 f10 f11 f12 f13 f14 f15 f16 f17 : Value} {r : List Value} {x : Int64} (hf : mx_G y.1.cls idx ci 17 .long) (hd : decode y.2.1 pc = .ok (.putfield idx, 3)) (ha : h a = mh_ob ci (f0 :: f1 :: f2 :: f3 :: f4 :: f5 :: f6 :: f7 :: f8 :: f9 :: f10 :: f11 :: f12 :: f13 :: f14 :: f15 :: f16 :: f17 :: r)) (K : At y dom d (pc + 3) L st (mh_up h a (mh_ob ci (f0 :: f1 :: f2 :: f3 :: f4 :: f5 :: f6 :: f7 :: f8 :: f9 :: f10 :: f11 :: f12 :: f13 :: f14 :: f15 :: f16 :: .long x :: r))) Q) : At y dom d pc L (.long x :: .ref a :: st) h Q := ax_put hf hd ha rfl rfl (fun _ => rfl) (by simp only [List.length_cons]; omega) K
theorem ax_putl17u {idx ci a : Nat} {f0 f1 f2 f3 f4 f5 f6 f7 f8 f9 f10 f11 f12 f13 f14 f15 f16 f17 : Value} {r : List Value} {x : Int64} (hf : mx_G y.1.cls idx ci 17 .long) (hd : decode y.2.1 pc = .ok (.putfield idx, 3)) (K : At y dom d (pc + 3) L st (mh_up h a (mh_ob ci (f0 :: f1 :: f2 :: f3 :: f4 :: f5 :: f6 :: f7 :: f8 :: f9 :: f10 :: f11 :: f12 :: f13 :: f14 :: f15 :: f16 :: .long x :: r))) Q) : At y dom d pc L (.long x :: .ref a :: st) (mh_up h a (mh_ob ci (f0 :: f1 :: f2 :: f3 :: f4 :: f5 :: f6 :: f7 :: f8 :: f9 :: f10 :: f11 :: f12 :: f13 :: f14 :: f15 :: f16 :: f17 :: r))) Q := ax_putl17 hf hd mh_up_s (At.hp mh_up_uu K)
theorem ax_puti18 {idx ci a : Nat} {f0 f1 f2 f3 f4 f5 f6 f7 f8 f9 f10 f11 f12 f13 f14 f15 f16 f17 f18 : Value} {r : List Value} {x : Int32} (hf : mx_G y.1.cls idx ci 18 .int) (hd : decode y.2.1 pc = .ok (.putfield idx, 3)) (ha : h a = mh_ob ci (f0 :: f1 :: f2 :: f3 :: f4 :: f5 :: f6 :: f7 :: f8 :: f9 :: f10 :: f11 :: f12 :: f13 :: f14 :: f15 :: f16 :: f17 :: f18 :: r)) (K : At y dom d (pc + 3) L st (mh_up h a (mh_ob ci (f0 :: f1 :: f2 :: f3 :: f4 :: f5 :: f6 :: f7 :: f8 :: f9 :: f10 :: f11 :: f12 :: f13 :: f14 :: f15 :: f16 :: f17 :: .int x :: r))) Q) : At y dom d pc L (.int x :: .ref a :: st) h Q := ax_put hf hd ha rfl rfl (fun _ => rfl) (by simp only [List.length_cons]; omega) K
theorem ax_puti18u {idx ci a : Nat} {f0 f1 f2 f3 f4 f5 f6 f7 f8 f9 f10 f11 f12 f13 f14 f15 f16 f17 f18 : Value} {r : List Value} {x : Int32} (hf : mx_G y.1.cls idx ci 18 .int) (hd : decode y.2.1 pc = .ok (.putfield idx, 3)) (K : At y dom d (pc + 3) L st (mh_up h a (mh_ob ci (f0 :: f1 :: f2 :: f3 :: f4 :: f5 :: f6 :: f7 :: f8 :: f9 :: f10 :: f11 :: f12 :: f13 :: f14 :: f15 :: f16 :: f17 :: .int x :: r))) Q) : At y dom d pc L (.int x :: .ref a :: st) (mh_up h a (mh_ob ci (f0 :: f1 :: f2 :: f3 :: f4 :: f5 :: f6 :: f7 :: f8 :: f9 :: f10 :: f11 :: f12 :: f13 :: f14 :: f15 :: f16 :: f17 :: f18 :: r))) Q := ax_puti18 hf hd mh_up_s (At.hp mh_up_uu K)
theorem ax_putl18 {idx ci a : Nat} {f0 f1 f2 f3 f4 f5 f6 f7 f8 f9 f10 f11 f12 f13 f14 f15 f16 f17 f18 : Value} {r : List Value} {x : Int64} (hf : mx_G y.1.cls idx ci 18 .long) (hd : decode y.2.1 pc = .ok (.putfield idx, 3)) (ha : h a = mh_ob ci (f0 :: f1 :: f2 :: f3 :: f4 :: f5 :: f6 :: f7 :: f8 :: f9 :: f10 :: f11 :: f12 :: f13 :: f14 :: f15 :: f16 :: f17 :: f18 :: r)) (K : At y dom d (pc + 3) L st (mh_up h a (mh_ob ci (f0 :: f1 :: f2 :: f3 :: f4 :: f5 :: f6 :: f7 :: f8 :: f9 :: f10 :: f11 :: f12 :: f13 :: f14 :: f15 :: f16 :: f17 :: .long x :: r))) Q) : At y dom d pc L (.long x :: .ref a :: st) h Q := ax_put hf hd ha rfl rfl (fun _ => rfl) (by simp only [List.length_cons]; omega) K
theorem ax_putl18u {idx ci a : Nat} {f0 f1 f2 f3 f4 f5 f6 f7 f8 f9 f10 f11 f12 f13 f14 f15 f16 f17 f18 : Value} {r : List Value} {x : Int64} (hf : mx_G y.1.cls idx ci 18 .long) (hd : decode y.2.1 pc = .ok (.putfield idx, 3)) (K : At y dom d (pc + 3) L st (mh_up h a (mh_ob ci (f0 :: f1 :: f2 :: f3 :: f4 :: f5 :: f6 :: f7 :: f8 :: f9 :: f10 :: f11 :: f12 :: f13 :: f14 :: f15 :: f16 :: f17 :: .long x :: r))) Q) : At y dom d pc L (.long x :: .ref a :: st) (mh_up h a (mh_ob ci (f0 :: f1 :: f2 :: f3 :: f4 :: f5 :: f6 :: f7 :: f8 :: f9 :: f10 :: f11 :: f12 :: f13 :: f14 :: f15 :: f16 :: f17 :: f18 :: r))) Q := ax_putl18 hf hd mh_up_s (At.hp mh_up_uu K)
theorem ax_puti19 {idx ci a : Nat} {f0 f1 f2 f3 f4 f5 f6 f7 f8 f9 f10 f11 f12 f13 f14 f15 f16 f17 f18 f19 : Value} {r : List Value} {x : Int32} (hf : mx_G y.1.cls idx ci 19 .int) (hd : decode y.2.1 pc = .ok (.putfield idx, 3)) (ha : h a = mh_ob ci (f0 :: f1 :: f2 :: f3 :: f4 :: f5 :: f6 :: f7 :: f8 :: f9 :: f10 :: f11 :: f12 :: f13 :: f14 :: f15 :: f16 :: f17 :: f18 :: f19 :: r)) (K : At y dom d (pc + 3) L st (mh_up h a (mh_ob ci (f0 :: f1 :: f2 :: f3 :: f4 :: f5 :: f6 :: f7 :: f8 :: f9 :: f10 :: f11 :: f12 :: f13 :: f14 :: f15 :: f16 :: f17 :: f18 :: .int x :: r))) Q) : At y dom d pc L (.int x :: .ref a :: st) h Q := ax_put hf hd ha rfl rfl (fun _ => rfl) (by simp only [List.length_cons]; omega) K
theorem ax_puti19u {idx ci a : Nat} {f0 f1 f2 f3 f4 f5 f6 f7 f8 f9 f10 f11 f12 f13 f14 f15 f16 f17 f18 f19 : Value} {r : List Value} {x : Int32} (hf : mx_G y.1.cls idx ci 19 .int) (hd : decode y.2.1 pc = .ok (.putfield idx, 3)) (K : At y dom d (pc + 3) L st (mh_up h a (mh_ob ci (f0 :: f1 :: f2 :: f3 :: f4 :: f5 :: f6 :: f7 :: f8 :: f9 :: f10 :: f11 :: f12 :: f13 :: f14 :: f15 :: f16 :: f17 :: f18 :: .int x :: r))) Q) : At y dom d pc L (.int x :: .ref a :: st) (mh_up h a (mh_ob ci (f0 :: f1 :: f2 :: f3 :: f4 :: f5 :: f6 :: f7 :: f8 :: f9 :: f10 :: f11 :: f12 :: f13 :: f14 :: f15 :: f16 :: f17 :: f18 :: f19 :: r))) Q := ax_puti19 hf hd mh_up_s (At.hp mh_up_uu K)
theorem ax_putl19 {idx ci a : Nat} {f0 f1 f2 f3 f4 f5 f6 f7 f8 f9 f10 f11 f12 f13 f14 f15 f16 f17 f18 f19 : Value} {r : List Value} {x : Int64} (hf : mx_G y.1.cls idx ci 19 .long) (hd : decode y.2.1 pc = .ok (.putfield idx, 3)) (ha : h a = mh_ob ci (f0 :: f1 :: f2 :: f3 :: f4 :: f5 :: f6 :: f7 :: f8 :: f9 :: f10 :: f11 :: f12 :: f13 :: f14 :: f15 :: f16 :: f17 :: f18 :: f19 :: r)) (K : At y dom d (pc + 3) L st (mh_up h a (mh_ob ci (f0 :: f1 :: f2 :: f3 :: f4 :: f5 :: f6 :: f7 :: f8 :: f9 :: f10 :: f11 :: f12 :: f13 :: f14 :: f15 :: f16 :: f17 :: f18 :: .long x :: r))) Q) : At y dom d pc L (.long x :: .ref a :: st) h Q := ax_put hf hd ha rfl rfl (fun _ => rfl) (by simp only [List.length_cons]; omega) K
theorem ax_putl19u {idx ci a : Nat} {f0 f1 f2 f3 f4 f5 f6 f7 f8 f9 f10 f11 f12 f13 f14 f15 f16 f17 f18 f19 : Value} {r : List Value} {x : Int64} (hf : mx_G y.1.cls idx ci 19 .long) (hd : decode y.2.1 pc = .ok (.putfield idx, 3)) (K : At y dom d (pc + 3) L st (mh_up h a (mh_ob ci (f0 :: f1 :: f2 :: f3 :: f4 :: f5 :: f6 :: f7 :: f8 :: f9 :: f10 :: f11 :: f12 :: f13 :: f14 :: f15 :: f16 :: f17 :: f18 :: .long x :: r))) Q) : At y dom d pc L (.long x :: .ref a :: st) (mh_up h a (mh_ob ci (f0 :: f1 :: f2 :: f3 :: f4 :: f5 :: f6 :: f7 :: f8 :: f9 :: f10 :: f11 :: f12 :: f13 :: f14 :: f15 :: f16 :: f17 :: f18 :: f19 :: r))) Q := ax_putl19 hf hd mh_up_s (At.hp mh_up_uu K)
theorem ax_puti20 {idx ci a : Nat} {f0 f1 f2 f3 f4 f5 f6 f7 f8 f9 f10 f11 f12 f13 f14 f15 f16 f17 f18 f19 f20 : Value} {r : List Value} {x : Int32} (hf : mx_G y.1.cls idx ci 20 .int) (hd : decode y.2.1 pc = .ok (.putfield idx, 3)) (ha : h a = mh_ob ci (f0 :: f1 :: f2 :: f3 :: f4 :: f5 :: f6 :: f7 :: f8 :: f9 :: f10 :: f11 :: f12 :: f13 :: f14 :: f15 :: f16 :: f17 :: f18 :: f19 :: f20 :: r)) (K : At y dom d (pc + 3) L st (mh_up h a (mh_ob ci (f0 :: f1 :: f2 :: f3 :: f4 :: f5 :: f6 :: f7 :: f8 :: f9 :: f10 :: f11 :: f12 :: f13 :: f14 :: f15 :: f16 :: f17 :: f18 :: f19 :: .int x :: r))) Q) : At y dom d pc L (.int x :: .ref a :: st) h Q := ax_put hf hd ha rfl rfl (fun _ => rfl) (by simp only [List.length_cons]; omega) K
theorem ax_puti20u {idx ci a : Nat} {f0 f1 f2 f3 f4 f5 f6 f7 f8 f9 f10 f11 f12 f13 f14 f15 f16 f17 f18 f19 f20 : Value} {r : List Value} {x : Int32} (hf : mx_G y.1.cls idx ci 20 .int) (hd : decode y.2.1 pc = .ok (.putfield idx, 3)) (K : At y dom d (pc + 3) L st (mh_up h a (mh_ob ci (f0 :: f1 :: f2 :: f3 :: f4 :: f5 :: f6 :: f7 :: f8 :: f9 :: f10 :: f11 :: f12 :: f13 :: f14 :: f15 :: f16 :: f17 :: f18 :: f19 :: .int x :: r))) Q) : At y dom d pc L (.int x :: .ref a :: st) (mh_up h a (mh_ob ci (f0 :: f1 :: f2 :: f3 :: f4 :: f5 :: f6 :: f7 :: f8 :: f9 :: f10 :: f11 :: f12 :: f13 :: f14 :: f15 :: f16 :: f17 :: f18 :: f19 :: f20 :: r))) Q := ax_puti20 hf hd mh_up_s (At.hp mh_up_uu K)
theorem ax_putl20 {idx ci a : Nat} {f0 f1 f2 f3 f4 f5 f6 f7 f8 f9 f10 f11 f12 f13 f14 f15 f16 f17 f18 f19 f20 : Value} {r : List Value} {x : Int64} (hf : mx_G y.1.cls idx ci 20 .long) (hd : decode y.2.1 pc = .ok (.putfield idx, 3)) (ha : h a = mh_ob ci (f0 :: f1 :: f2 :: f3 :: f4 :: f5 :: f6 :: f7 :: f8 :: f9 :: f10 :: f11 :: f12 :: f13 :: f14 :: f15 :: f16 :: f17 :: f18 :: f19 :: f20 :: r)) (K : At y dom d (pc + 3) L st (mh_up h a (mh_ob ci (f0 :: f1 :: f2 :: f3 :: f4 :: f5 :: f6 :: f7 :: f8 :: f9 :: f10 :: f11 :: f12 :: f13 :: f14 :: f15 :: f16 :: f17 :: f18 :: f19 :: .long x :: r))) Q) : At y dom d pc L (.long x :: .ref a :: st) h Q := ax_put hf hd ha rfl rfl (fun _ => rfl) (by simp only [List.length_cons]; omega) K
theorem ax_putl20u {idx ci a : Nat} {f0 f1 f2 f3 f4 f5 f6 f7 f8 f9 f10 f11 f12 f13 f14 f15 f16 f17 f18 f19 f20 : Value} {r : List Value} {x : Int64} (hf : mx_G y.1.cls idx ci 20 .long) (hd : decode y.2.1 pc = .ok (.putfield idx, 3)) (K : At y dom d (pc + 3) L st (mh_up h a (mh_ob ci (f0 :: f1 :: f2 :: f3 :: f4 :: f5 :: f6 :: f7 :: f8 :: f9 :: f10 :: f11 :: f12 :: f13 :: f14 :: f15 :: f16 :: f17 :: f18 :: f19 :: .long x :: r))) Q) : At y dom d pc L (.long x :: .ref a :: st) (mh_up h a (mh_ob ci (f0 :: f1 :: f2 :: f3 :: f4 :: f5 :: f6 :: f7 :: f8 :: f9 :: f10 :: f11 :: f12 :: f13 :: f14 :: f15 :: f16 :: f17 :: f18 :: f19 :: f20 :: r))) Q := ax_putl20 hf hd mh_up_s (At.hp mh_up_uu K)
theorem ax_puti21 {idx ci a : Nat} {f0 f1 f2 f3 f4 f5 f6 f7 f8 f9 f10 f11 f12 f13 f14 f15 f16 f17 f18 f19 f20 f21 : Value} {r : List Value} {x : Int32} (hf : mx_G y.1.cls idx ci 21 .int) (hd : decode y.2.1 pc = .ok (.putfield idx, 3)) (ha : h a = mh_ob ci (f0 :: f1 :: f2 :: f3 :: f4 :: f5 :: f6 :: f7 :: f8 :: f9 :: f10 :: f11 :: f12 :: f13 :: f14 :: f15 :: f16 :: f17 :: f18 :: f19 :: f20 :: f21 :: r)) (K : At y dom d (pc + 3) L st (mh_up h a (mh_ob ci (f0 :: f1 :: f2 :: f3 :: f4 :: f5 :: f6 :: f7 :: f8 :: f9 :: f10 :: f11 :: f12 :: f13 :: f14 :: f15 :: f16 :: f17 :: f18 :: f19 :: f20 :: .int x :: r))) Q) : At y dom d pc L (.int x :: .ref a :: st) h Q := ax_put hf hd ha rfl rfl (fun _ => rfl) (by simp only [List.length_cons]; omega) K
theorem ax_puti21u {idx ci a : Nat} {f0 f1 f2 f3 f4 f5 f6 f7 f8 f9 f10 f11 f12 f13 f14 f15 f16 f17 f18 f19 f20 f21 : Value} {r : List Value} {x : Int32} (hf : mx_G y.1.cls idx ci 21 .int) (hd : decode y.2.1 pc = .ok (.putfield idx, 3)) (K : At y dom d (pc + 3) L st (mh_up h a (mh_ob ci (f0 :: f1 :: f2 :: f3 :: f4 :: f5 :: f6 :: f7 :: f8 :: f9 :: f10 :: f11 :: f12 :: f13 :: f14 :: f15 :: f16 :: f17 :: f18 :: f19 :: f20 :: .int x :: r))) Q) : At y dom d pc L (.int x :: .ref a :: st) (mh_up h a (mh_ob ci (f0 :: f1 :: f2 :: f3 :: f4 :: f5 :: f6 :: f7 :: f8 :: f9 :: f10 :: f11 :: f12 :: f13 :: f14 :: f15 :: f16 :: f17 :: f18 :: f19 :: f20 :: f21 :: r))) Q := ax_puti21 hf hd mh_up_s (At.hp mh_up_uu K)
theorem ax_putl21 {idx ci a : Nat} {f0 f1 f2 f3 f4 f5 f6 f7 f8 f9 f10 f11 f12 f13 f14 f15 f16 f17 f18 f19 f20 f21 : Value} {r : List Value} {x : Int64} (hf : mx_G y.1.cls idx ci 21 .long) (hd : decode y.2.1 pc = .ok (.putfield idx, 3)) (ha : h a = mh_ob ci (f0 :: f1 :: f2 :: f3 :: f4 :: f5 :: f6 :: f7 :: f8 :: f9 :: f10 :: f11 :: f12 :: f13 :: f14 :: f15 :: f16 :: f17 :: f18 :: f19 :: f20 :: f21 :: r)) (K : At y dom d (pc + 3) L st (mh_up h a (mh_ob ci (f0 :: f1 :: f2 :: f3 :: f4 :: f5 :: f6 :: f7 :: f8 :: f9 :: f10 :: f11 :: f12 :: f13 :: f14 :: f15 :: f16 :: f17 :: f18 :: f19 :: f20 :: .long x :: r))) Q) : At y dom d pc L (.long x :: .ref a :: st) h Q := ax_put hf hd ha rfl rfl (fun _ => rfl) (by simp only [List.length_cons]; omega) K
theorem ax_putl21u {idx ci a : Nat} {f0 f1 f2 f3 f4 f5 f6 f7 f8 f9 f10 f11 f12 f13 f14 f15 f16 f17 f18 f19 f20 f21 : Value} {r : List Value} {x : Int64} (hf : mx_G y.1.cls idx ci 21 .long) (hd : decode y.2.1 pc = .ok (.putfield idx, 3)) (K : At y dom d (pc + 3) L st (mh_up h a (mh_ob ci (f0 :: f1 :: f2 :: f3 :: f4 :: f5 :: f6 :: f7 :: f8 :: f9 :: f10 :: f11 :: f12 :: f13 :: f14 :: f15 :: f16 :: f17 :: f18 :: f19 :: f20 :: .long x :: r))) Q) : At y dom d pc L (.long x :: .ref a :: st) (mh_up h a (mh_ob ci (f0 :: f1 :: f2 :: f3 :: f4 :: f5 :: f6 :: f7 :: f8 :: f9 :: f10 :: f11 :: f12 :: f13 :: f14 :: f15 :: f16 :: f17 :: f18 :: f19 :: f20 :: f21 :: r))) Q := ax_putl21 hf hd mh_up_s (At.hp mh_up_uu K)
theorem ax_putz3 {idx ci a : Nat} {f0 f1 f2 f3 : Value} {r : List Value} {x : Int32} (hf : mx_G y.1.cls idx ci 3 .boolean) (hd : decode y.2.1 pc = .ok (.putfield idx, 3)) (ha : h a = mh_ob ci (f0 :: f1 :: f2 :: f3 :: r)) (hn : narrow .boolean (.int x) = .int x) (K : At y dom d (pc + 3) L st (mh_up h a (mh_ob ci (f0 :: f1 :: f2 :: .int x :: r))) Q) : At y dom d pc L (.int x :: .ref a :: st) h Q := ax_put hf hd ha hn (by rcases mx_bool hn with rfl | rfl <;> rfl) (fun _ => rfl) (by simp only [List.length_cons]; omega) K
theorem ax_putz3u {idx ci a : Nat} {f0 f1 f2 f3 : Value} {r : List Value} {x : Int32} (hf : mx_G y.1.cls idx ci 3 .boolean) (hd : decode y.2.1 pc = .ok (.putfield idx, 3)) (hn : narrow .boolean (.int x) = .int x) (K : At y dom d (pc + 3) L st (mh_up h a (mh_ob ci (f0 :: f1 :: f2 :: .int x :: r))) Q) : At y dom d pc L (.int x :: .ref a :: st) (mh_up h a (mh_ob ci (f0 :: f1 :: f2 :: f3 :: r))) Q := ax_putz3 hf hd mh_up_s hn (At.hp mh_up_uu K)
theorem ax_iastu {a n : Nat} {f : Nat → Int32} {i x : Int32} (hd : decode y.2.1 pc = .ok (.iastore, 1)) (hi : vp_in i n) (K : At y dom d (pc + 1) L st (mh_up h a (mh_ia 0 n (upd f i.toNatClampNeg x))) Q) : At y dom d pc L (.int x :: .int i :: .ref a :: st) (mh_up h a (mh_ia 0 n f)) Q := ax_iast hd mh_up_s hi (At.hp mh_up_uu K)
theorem ax_istore0 {l0 : Option Value} {r : List (Option Value)} {x : Int32} (hd : decode y.2.1 pc = .ok (.istore_n 0, 1)) (hb : 0 < y.2.2.1) (K : At y dom d (pc + 1) (some (.int x) :: r) st h Q) : At y dom d pc (l0 :: r) (.int x :: st) h Q := ax_istore_n hd hb (rfl) K
theorem ax_astore0 {l0 : Option Value} {r : List (Option Value)} {x : Nat} (hd : decode y.2.1 pc = .ok (.astore_n 0, 1)) (hb : 0 < y.2.2.1) (K : At y dom d (pc + 1) (some (.ref x) :: r) st h Q) : At y dom d pc (l0 :: r) (.ref x :: st) h Q := ax_astore_n hd hb (rfl) K
theorem ax_iinc0 {r : List (Option Value)} {n : Int} {x v : Int32} (hd : decode y.2.1 pc = .ok (.iinc 0 n, 3)) (hb : 0 < y.2.2.1) (hv : x + Int32.ofInt n = v) (K : At y dom d (pc + 3) (some (.int v) :: r) st h Q) : At y dom d pc (some (.int x) :: r) st h Q := ax_iinc hd rfl hb hv rfl K
theorem ax_lstore0 {l0 l1 : Option Value} {r : List (Option Value)} {x : Int64} (hd : decode y.2.1 pc = .ok (.lstore_n 0, 1)) (hb : 0 + 1 < y.2.2.1) (K : At y dom d (pc + 1) (some (.long x) :: none :: r) st h Q) : At y dom d pc (l0 :: l1 :: r) (.long x :: st) h Q := ax_lstore_n hd hb (rfl) K
theorem ax_istore1 {l0 l1 : Option Value} {r : List (Option Value)} {x : Int32} (hd : decode y.2.1 pc = .ok (.istore_n 1, 1)) (hp : mh_nl l0 = true) (hb : 1 < y.2.2.1) (K : At y dom d (pc + 1) (l0 :: some (.int x) :: r) st h Q) : At y dom d pc (l0 :: l1 :: r) (.int x :: st) h Q := ax_istore_n hd hb (mh_s1_1 hp) K
theorem ax_astore1 {l0 l1 : Option Value} {r : List (Option Value)} {x : Nat} (hd : decode y.2.1 pc = .ok (.astore_n 1, 1)) (hp : mh_nl l0 = true) (hb : 1 < y.2.2.1) (K : At y dom d (pc + 1) (l0 :: some (.ref x) :: r) st h Q) : At y dom d pc (l0 :: l1 :: r) (.ref x :: st) h Q := ax_astore_n hd hb (mh_s1_1 hp) K
theorem ax_iinc1 {l0 : Option Value} {r : List (Option Value)} {n : Int} {x v : Int32} (hd : decode y.2.1 pc = .ok (.iinc 1 n, 3)) (hp : mh_nl l0 = true) (hb : 1 < y.2.2.1) (hv : x + Int32.ofInt n = v) (K : At y dom d (pc + 3) (l0 :: some (.int v) :: r) st h Q) : At y dom d pc (l0 :: some (.int x) :: r) st h Q := ax_iinc hd rfl hb hv (mh_s1_1 hp) K
theorem ax_lstore1 {l0 l1 l2 : Option Value} {r : List (Option Value)} {x : Int64} (hd : decode y.2.1 pc = .ok (.lstore_n 1, 1)) (hp : mh_nl l0 = true) (hb : 1 + 1 < y.2.2.1) (K : At y dom d (pc + 1) (l0 :: some (.long x) :: none :: r) st h Q) : At y dom d pc (l0 :: l1 :: l2 :: r) (.long x :: st) h Q := ax_lstore_n hd hb (congrArg (fun q : List (Option Value) => q.set 2 none) (mh_s1_1 hp)) K
theorem ax_istore2 {l0 l1 l2 : Option Value} {r : List (Option Value)} {x : Int32} (hd : decode y.2.1 pc = .ok (.istore_n 2, 1)) (hp : mh_nl l1 = true) (hb : 2 < y.2.2.1) (K : At y dom d (pc + 1) (l0 :: l1 :: some (.int x) :: r) st h Q) : At y dom d pc (l0 :: l1 :: l2 :: r) (.int x :: st) h Q := ax_istore_n hd hb (mh_s1_2 hp) K
theorem ax_astore2 {l0 l1 l2 : Option Value} {r : List (Option Value)} {x : Nat} (hd : decode y.2.1 pc = .ok (.astore_n 2, 1)) (hp : mh_nl l1 = true) (hb : 2 < y.2.2.1) (K : At y dom d (pc + 1) (l0 :: l1 :: some (.ref x) :: r) st h Q) : At y dom d pc (l0 :: l1 :: l2 :: r) (.ref x :: st) h Q := ax_astore_n hd hb (mh_s1_2 hp) K
theorem ax_iinc2 {l0 l1 : Option Value} {r : List (Option Value)} {n : Int} {x v : Int32} (hd : decode y.2.1 pc = .ok (.iinc 2 n, 3)) (hp : mh_nl l1 = true) (hb : 2 < y.2.2.1) (hv : x + Int32.ofInt n = v) (K : At y dom d (pc + 3) (l0 :: l1 :: some (.int v) :: r) st h Q) : At y dom d pc (l0 :: l1 :: some (.int x) :: r) st h Q := ax_iinc hd rfl hb hv (mh_s1_2 hp) K
theorem ax_lstore2 {l0 l1 l2 l3 : Option Value} {r : List (Option Value)} {x : Int64} (hd : decode y.2.1 pc = .ok (.lstore_n 2, 1)) (hp : mh_nl l1 = true) (hb : 2 + 1 < y.2.2.1) (K : At y dom d (pc + 1) (l0 :: l1 :: some (.long x) :: none :: r) st h Q) : At y dom d pc (l0 :: l1 :: l2 :: l3 :: r) (.long x :: st) h Q := ax_lstore_n hd hb (congrArg (fun q : List (Option Value) => q.set 3 none) (mh_s1_2 hp)) K
theorem ax_istore3 {l0 l1 l2 l3 : Option Value} {r : List (Option Value)} {x : Int32} (hd : decode y.2.1 pc = .ok (.istore_n 3, 1)) (hp : mh_nl l2 = true) (hb : 3 < y.2.2.1) (K : At y dom d (pc + 1) (l0 :: l1 :: l2 :: some (.int x) :: r) st h Q) : At y dom d pc (l0 :: l1 :: l2 :: l3 :: r) (.int x :: st) h Q := ax_istore_n hd hb (mh_s1_3 hp) K
theorem ax_astore3 {l0 l1 l2 l3 : Option Value} {r : List (Option Value)} {x : Nat} (hd : decode y.2.1 pc = .ok (.astore_n 3, 1)) (hp : mh_nl l2 = true) (hb : 3 < y.2.2.1) (K : At y dom d (pc + 1) (l0 :: l1 :: l2 :: some (.ref x) :: r) st h Q) : At y dom d pc (l0 :: l1 :: l2 :: l3 :: r) (.ref x :: st) h Q := ax_astore_n hd hb (mh_s1_3 hp) K
theorem ax_iinc3 {l0 l1 l2 : Option Value} {r : List (Option Value)} {n : Int} {x v : Int32} (hd : decode y.2.1 pc = .ok (.iinc 3 n, 3)) (hp : mh_nl l2 = true) (hb : 3 < y.2.2.1) (hv : x + Int32.ofInt n = v) (K : At y dom d (pc + 3) (l0 :: l1 :: l2 :: some (.int v) :: r) st h Q) : At y dom d pc (l0 :: l1 :: l2 :: some (.int x) :: r) st h Q := ax_iinc hd rfl hb hv (mh_s1_3 hp) K
theorem ax_lstore3 {l0 l1 l2 l3 l4 : Option Value} {r : List (Option Value)} {x : Int64} (hd : decode y.2.1 pc = .ok (.lstore_n 3, 1)) (hp : mh_nl l2 = true) (hb : 3 + 1 < y.2.2.1) (K : At y dom d (pc + 1) (l0 :: l1 :: l2 :: some (.long x) :: none :: r) st h Q) : At y dom d pc (l0 :: l1 :: l2 :: l3 :: l4 :: r) (.long x :: st) h Q := ax_lstore_n hd hb (congrArg (fun q : List (Option Value) => q.set 4 none) (mh_s1_3 hp)) K
theorem ax_istore4 {l0 l1 l2 l3 l4 : Option Value} {r : List (Option Value)} {x : Int32} (hd : decode y.2.1 pc = .ok (.istore 4, 2)) (hp : mh_nl l3 = true) (hb : 4 < y.2.2.1) (K : At y dom d (pc + 2) (l0 :: l1 :: l2 :: l3 :: some (.int x) :: r) st h Q) : At y dom d pc (l0 :: l1 :: l2 :: l3 :: l4 :: r) (.int x :: st) h Q := ax_istore hd hb (mh_s1_4 hp) K
theorem ax_astore4 {l0 l1 l2 l3 l4 : Option Value} {r : List (Option Value)} {x : Nat} (hd : decode y.2.1 pc = .ok (.astore 4, 2)) (hp : mh_nl l3 = true) (hb : 4 < y.2.2.1) (K : At y dom d (pc + 2) (l0 :: l1 :: l2 :: l3 :: some (.ref x) :: r) st h Q) : At y dom d pc (l0 :: l1 :: l2 :: l3 :: l4 :: r) (.ref x :: st) h Q := ax_astore hd hb (mh_s1_4 hp) K
theorem ax_iinc4 {l0 l1 l2 l3 : Option Value} {r : List (Option Value)} {n : Int} {x v : Int32} (hd : decode y.2.1 pc = .ok (.iinc 4 n, 3)) (hp : mh_nl l3 = true) (hb : 4 < y.2.2.1) (hv : x + Int32.ofInt n = v) (K : At y dom d (pc + 3) (l0 :: l1 :: l2 :: l3 :: some (.int v) :: r) st h Q) : At y dom d pc (l0 :: l1 :: l2 :: l3 :: some (.int x) :: r) st h Q := ax_iinc hd rfl hb hv (mh_s1_4 hp) K
theorem ax_lstore4 {l0 l1 l2 l3 l4 l5 : Option Value} {r : List (Option Value)} {x : Int64} (hd : decode y.2.1 pc = .ok (.lstore 4, 2)) (hp : mh_nl l3 = true) (hb : 4 + 1 < y.2.2.1) (K : At y dom d (pc + 2) (l0 :: l1 :: l2 :: l3 :: some (.long x) :: none :: r) st h Q) : At y dom d pc (l0 :: l1 :: l2 :: l3 :: l4 :: l5 :: r) (.long x :: st) h Q := ax_lstore hd hb (congrArg (fun q : List (Option Value) => q.set 5 none) (mh_s1_4 hp)) K
theorem ax_istore5 {l0 l1 l2 l3 l4 l5 : Option Value} {r : List (Option Value)} {x : Int32} (hd : decode y.2.1 pc = .ok (.istore 5, 2)) (hp : mh_nl l4 = true) (hb : 5 < y.2.2.1) (K : At y dom d (pc + 2) (l0 :: l1 :: l2 :: l3 :: l4 :: some (.int x) :: r) st h Q) : At y dom d pc (l0 :: l1 :: l2 :: l3 :: l4 :: l5 :: r) (.int x :: st) h Q := ax_istore hd hb (mh_s1_5 hp) K
theorem ax_astore5 {l0 l1 l2 l3 l4 l5 : Option Value} {r : List (Option Value)} {x : Nat} (hd : decode y.2.1 pc = .ok (.astore 5, 2)) (hp : mh_nl l4 = true) (hb : 5 < y.2.2.1) (K : At y dom d (pc + 2) (l0 :: l1 :: l2 :: l3 :: l4 :: some (.ref x) :: r) st h Q) : At y dom d pc (l0 :: l1 :: l2 :: l3 :: l4 :: l5 :: r) (.ref x :: st) h Q := ax_astore hd hb (mh_s1_5 hp) K
theorem ax_iinc5 {l0 l1 l2 l3 l4 : Option Value} {r : List (Option Value)} {n : Int} {x v : Int32} (hd : decode y.2.1 pc = .ok (.iinc 5 n, 3)) (hp : mh_nl l4 = true) (hb : 5 < y.2.2.1) (hv : x + Int32.ofInt n = v) (K : At y dom d (pc + 3) (l0 :: l1 :: l2 :: l3 :: l4 :: some (.int v) :: r) st h Q) : At y dom d pc (l0 :: l1 :: l2 :: l3 :: l4 :: some (.int x) :: r) st h Q := ax_iinc hd rfl hb hv (mh_s1_5 hp) K
theorem ax_lstore5 {l0 l1 l2 l3 l4 l5 l6 : Option Value} {r : List (Option Value)} {x : Int64} (hd : decode y.2.1 pc = .ok (.lstore 5, 2)) (hp : mh_nl l4 = true) (hb : 5 + 1 < y.2.2.1) (K : At y dom d (pc + 2) (l0 :: l1 :: l2 :: l3 :: l4 :: some (.long x) :: none :: r) st h Q) : At y dom d pc (l0 :: l1 :: l2 :: l3 :: l4 :: l5 :: l6 :: r) (.long x :: st) h Q := ax_lstore hd hb (congrArg (fun q : List (Option Value) => q.set 6 none) (mh_s1_5 hp)) K
theorem ax_istore6 {l0 l1 l2 l3 l4 l5 l6 : Option Value} {r : List (Option Value)} {x : Int32} (hd : decode y.2.1 pc = .ok (.istore 6, 2)) (hp : mh_nl l5 = true) (hb : 6 < y.2.2.1) (K : At y dom d (pc + 2) (l0 :: l1 :: l2 :: l3 :: l4 :: l5 :: some (.int x) :: r) st h Q) : At y dom d pc (l0 :: l1 :: l2 :: l3 :: l4 :: l5 :: l6 :: r) (.int x :: st) h Q := ax_istore hd hb (mh_s1_6 hp) K
theorem ax_astore6 {l0 l1 l2 l3 l4 l5 l6 : Option Value} {r : List (Option Value)} {x : Nat} (hd : decode y.2.1 pc = .ok (.astore 6, 2)) (hp : mh_nl l5 = true) (hb : 6 < y.2.2.1) (K : At y dom d (pc + 2) (l0 :: l1 :: l2 :: l3 :: l4 :: l5 :: some (.ref x) :: r) st h Q) : At y dom d pc (l0 :: l1 :: l2 :: l3 :: l4 :: l5 :: l6 :: r) (.ref x :: st) h Q := ax_astore hd hb (mh_s1_6 hp) K
theorem ax_iinc6 {l0 l1 l2 l3 l4 l5 : Option Value} {r : List (Option Value)} {n : Int} {x v : Int32} (hd : decode y.2.1 pc = .ok (.iinc 6 n, 3)) (hp : mh_nl l5 = true) (hb : 6 < y.2.2.1) (hv : x + Int32.ofInt n = v) (K : At y dom d (pc + 3) (l0 :: l1 :: l2 :: l3 :: l4 :: l5 :: some (.int v) :: r) st h Q) : At y dom d pc (l0 :: l1 :: l2 :: l3 :: l4 :: l5 :: some (.int x) :: r) st h Q := ax_iinc hd rfl hb hv (mh_s1_6 hp) K
theorem ax_lstore6 {l0 l1 l2 l3 l4 l5 l6 l7 : Option Value} {r : List (Option Value)} {x : Int64} (hd : decode y.2.1 pc = .ok (.lstore 6, 2)) (hp : mh_nl l5 = true) (hb : 6 + 1 < y.2.2.1) (K : At y dom d (pc + 2) (l0 :: l1 :: l2 :: l3 :: l4 :: l5 :: some (.long x) :: none :: r) st h Q) : At y dom d pc (l0 :: l1 :: l2 :: l3 :: l4 :: l5 :: l6 :: l7 :: r) (.long x :: st) h Q := ax_lstore hd hb (congrArg (fun q : List (Option Value) => q.set 7 none) (mh_s1_6 hp)) K
theorem ax_istore7 {l0 l1 l2 l3 l4 l5 l6 l7 : Option Value} {r : List (Option Value)} {x : Int32} (hd : decode y.2.1 pc = .ok (.istore 7, 2)) (hp : mh_nl l6 = true) (hb : 7 < y.2.2.1) (K : At y dom d (pc + 2) (l0 :: l1 :: l2 :: l3 :: l4 :: l5 :: l6 :: some (.int x) :: r) st h Q) : At y dom d pc (l0 :: l1 :: l2 :: l3 :: l4 :: l5 :: l6 :: l7 :: r) (.int x :: st) h Q := ax_istore hd hb (mh_s1_7 hp) K
theorem ax_astore7 {l0 l1 l2 l3 l4 l5 l6 l7 : Option Value} {r : List (Option Value)} {x : Nat} (hd : decode y.2.1 pc = .ok (.astore 7, 2)) (hp : mh_nl l6 = true) (hb : 7 < y.2.2.1) (K : At y dom d (pc + 2) (l0 :: l1 :: l2 :: l3 :: l4 :: l5 :: l6 :: some (.ref x) :: r) st h Q) : At y dom d pc (l0 :: l1 :: l2 :: l3 :: l4 :: l5 :: l6 :: l7 :: r) (.ref x :: st) h Q := ax_astore hd hb (mh_s1_7 hp) K
theorem ax_iinc7 {l0 l1 l2 l3 l4 l5 l6 : Option Value} {r : List (Option Value)} {n : Int} {x v : Int32} (hd : decode y.2.1 pc = .ok (.iinc 7 n, 3)) (hp : mh_nl l6 = true) (hb : 7 < y.2.2.1) (hv : x + Int32.ofInt n = v) (K : At y dom d (pc + 3) (l0 :: l1 :: l2 :: l3 :: l4 :: l5 :: l6 :: some (.int v) :: r) st h Q) : At y dom d pc (l0 :: l1 :: l2 :: l3 :: l4 :: l5 :: l6 :: some (.int x) :: r) st h Q := ax_iinc hd rfl hb hv (mh_s1_7 hp) K
theorem ax_lstore7 {l0 l1 l2 l3 l4 l5 l6 l7 l8 : Option Value} {r : List (Option Value)} {x : Int64} (hd : decode y.2.1 pc = .ok (.lstore 7, 2)) (hp : mh_nl l6 = true) (hb : 7 + 1 < y.2.2.1) (K : At y dom d (pc + 2) (l0 :: l1 :: l2 :: l3 :: l4 :: l5 :: l6 :: some (.long x) :: none :: r) st h Q) : At y dom d pc (l0 :: l1 :: l2 :: l3 :: l4 :: l5 :: l6 :: l7 :: l8 :: r) (.long x :: st) h Q := ax_lstore hd hb (congrArg (fun q : List (Option Value) => q.set 8 none) (mh_s1_7 hp)) K
theorem ax_istore8 {l0 l1 l2 l3 l4 l5 l6 l7 l8 : Option Value} {r : List (Option Value)} {x : Int32} (hd : decode y.2.1 pc = .ok (.istore 8, 2)) (hp : mh_nl l7 = true) (hb : 8 < y.2.2.1) (K : At y dom d (pc + 2) (l0 :: l1 :: l2 :: l3 :: l4 :: l5 :: l6 :: l7 :: some (.int x) :: r) st h Q) : At y dom d pc (l0 :: l1 :: l2 :: l3 :: l4 :: l5 :: l6 :: l7 :: l8 :: r) (.int x :: st) h Q := ax_istore hd hb (mh_s1_8 hp) K
theorem ax_astore8 {l0 l1 l2 l3 l4 l5 l6 l7 l8 : Option Value} {r : List (Option Value)} {x : Nat} (hd : decode y.2.1 pc = .ok (.astore 8, 2)) (hp : mh_nl l7 = true) (hb : 8 < y.2.2.1) (K : At y dom d (pc + 2) (l0 :: l1 :: l2 :: l3 :: l4 :: l5 :: l6 :: l7 :: some (.ref x) :: r) st h Q) : At y dom d pc (l0 :: l1 :: l2 :: l3 :: l4 :: l5 :: l6 :: l7 :: l8 :: r) (.ref x :: st) h Q := ax_astore hd hb (mh_s1_8 hp) K
theorem ax_iinc8 {l0 l1 l2 l3 l4 l5 l6 l7 : Option Value} {r : List (Option Value)} {n : Int} {x v : Int32} (hd : decode y.2.1 pc = .ok (.iinc 8 n, 3)) (hp : mh_nl l7 = true) (hb : 8 < y.2.2.1) (hv : x + Int32.ofInt n = v) (K : At y dom d (pc + 3) (l0 :: l1 :: l2 :: l3 :: l4 :: l5 :: l6 :: l7 :: some (.int v) :: r) st h Q) : At y dom d pc (l0 :: l1 :: l2 :: l3 :: l4 :: l5 :: l6 :: l7 :: some (.int x) :: r) st h Q := ax_iinc hd rfl hb hv (mh_s1_8 hp) K
theorem ax_lstore8 {l0 l1 l2 l3 l4 l5 l6 l7 l8 l9 : Option Value} {r : List (Option Value)} {x : Int64} (hd : decode y.2.1 pc = .ok (.lstore 8, 2)) (hp : mh_nl l7 = true) (hb : 8 + 1 < y.2.2.1) (K : At y dom d (pc + 2) (l0 :: l1 :: l2 :: l3 :: l4 :: l5 :: l6 :: l7 :: some (.long x) :: none :: r) st h Q) : At y dom d pc (l0 :: l1 :: l2 :: l3 :: l4 :: l5 :: l6 :: l7 :: l8 :: l9 :: r) (.long x :: st) h Q := ax_lstore hd hb (congrArg (fun q : List (Option Value) => q.set 9 none) (mh_s1_8 hp)) K
theorem ax_istore9 {l0 l1 l2 l3 l4 l5 l6 l7 l8 l9 : Option Value} {r : List (Option Value)} {x : Int32} (hd : decode y.2.1 pc = .ok (.istore 9, 2)) (hp : mh_nl l8 = true) (hb : 9 < y.2.2.1) (K : At y dom d (pc + 2) (l0 :: l1 :: l2 :: l3 :: l4 :: l5 :: l6 :: l7 :: l8 :: some (.int x) :: r) st h Q) : At y dom d pc (l0 :: l1 :: l2 :: l3 :: l4 :: l5 :: l6 :: l7 :: l8 :: l9 :: r) (.int x :: st) h Q := ax_istore hd hb (mh_s1_9 hp) K
theorem ax_astore9 {l0 l1 l2 l3 l4 l5 l6 l7 l8 l9 : Option Value} {r : List (Option Value)} {x : Nat} (hd : decode y.2.1 pc = .ok (.astore 9, 2)) (hp : mh_nl l8 = true) (hb : 9 < y.2.2.1) (K : At y dom d (pc + 2) (l0 :: l1 :: l2 :: l3 :: l4 :: l5 :: l6 :: l7 :: l8 :: some (.ref x) :: r) st h Q) : At y dom d pc (l0 :: l1 :: l2 :: l3 :: l4 :: l5 :: l6 :: l7 :: l8 :: l9 :: r) (.ref x :: st) h Q := ax_astore hd hb (mh_s1_9 hp) K
theorem ax_iinc9 {l0 l1 l2 l3 l4 l5 l6 l7 l8 : Option Value} {r : List (Option Value)} {n : Int} {x v : Int32} (hd : decode y.2.1 pc = .ok (.iinc 9 n, 3)) (hp : mh_nl l8 = true) (hb : 9 < y.2.2.1) (hv : x + Int32.ofInt n = v) (K : At y dom d (pc + 3) (l0 :: l1 :: l2 :: l3 :: l4 :: l5 :: l6 :: l7 :: l8 :: some (.int v) :: r) st h Q) : At y dom d pc (l0 :: l1 :: l2 :: l3 :: l4 :: l5 :: l6 :: l7 :: l8 :: some (.int x) :: r) st h Q := ax_iinc hd rfl hb hv (mh_s1_9 hp) K
theorem ax_lstore9 {l0 l1 l2 l3 l4 l5 l6 l7 l8 l9 l10 : Option Value} {r : List (Option Value)} {x : Int64} (hd : decode y.2.1 pc = .ok (.lstore 9, 2)) (hp : mh_nl l8 = true) (hb : 9 + 1 < y.2.2.1) (K : At y dom d (pc + 2) (l0 :: l1 :: l2 :: l3 :: l4 :: l5 :: l6 :: l7 :: l8 :: some (.long x) :: none :: r) st h Q) : At y dom d pc (l0 :: l1 :: l2 :: l3 :: l4 :: l5 :: l6 :: l7 :: l8 :: l9 :: l10 :: r) (.long x :: st) h Q := ax_lstore hd hb (congrArg (fun q : List (Option Value) => q.set 10 none) (mh_s1_9 hp)) K
theorem ax_istore10 {l0 l1 l2 l3 l4 l5 l6 l7 l8 l9 l10 : Option Value} {r : List (Option Value)} {x : Int32} (hd : decode y.2.1 pc = .ok (.istore 10, 2)) (hp : mh_nl l9 = true) (hb : 10 < y.2.2.1) (K : At y dom d (pc + 2) (l0 :: l1 :: l2 :: l3 :: l4 :: l5 :: l6 :: l7 :: l8 :: l9 :: some (.int x) :: r) st h Q) : At y dom d pc (l0 :: l1 :: l2 :: l3 :: l4 :: l5 :: l6 :: l7 :: l8 :: l9 :: l10 :: r) (.int x :: st) h Q := ax_istore hd hb (mh_s1_10 hp) K
theorem ax_astore10 {l0 l1 l2 l3 l4 l5 l6 l7 l8 l9 l10 : Option Value} {r : List (Option Value)} {x : Nat} (hd : decode y.2.1 pc = .ok (.astore 10, 2)) (hp : mh_nl l9 = true) (hb : 10 < y.2.2.1) (K : At y dom d (pc + 2) (l0 :: l1 :: l2 :: l3 :: l4 :: l5 :: l6 :: l7 :: l8 :: l9 :: some (.ref x) :: r) st h Q) : At y dom d pc (l0 :: l1 :: l2 :: l3 :: l4 :: l5 :: l6 :: l7 :: l8 :: l9 :: l10 :: r) (.ref x :: st) h Q := ax_astore hd hb (mh_s1_10 hp) K
theorem ax_iinc10 {l0 l1 l2 l3 l4 l5 l6 l7 l8 l9 : Option Value} {r : List (Option Value)} {n : Int} {x v : Int32} (hd : decode y.2.1 pc = .ok (.iinc 10 n, 3)) (hp : mh_nl l9 = true) (hb : 10 < y.2.2.1) (hv : x + Int32.ofInt n = v) (K : At y dom d (pc + 3) (l0 :: l1 :: l2 :: l3 :: l4 :: l5 :: l6 :: l7 :: l8 :: l9 :: some (.int v) :: r) st h Q) : At y dom d pc (l0 :: l1 :: l2 :: l3 :: l4 :: l5 :: l6 :: l7 :: l8 :: l9 :: some (.int x) :: r) st h Q := ax_iinc hd rfl hb hv (mh_s1_10 hp) K
theorem ax_lstore10 {l0 l1 l2 l3 l4 l5 l6 l7 l8 l9 l10 l11 : Option Value} {r : List (Option Value)} {x : Int64} (hd : decode y.2.1 pc = .ok (.lstore 10, 2)) (hp : mh_nl l9 = true) (hb : 10 + 1 < y.2.2.1) (K : At y dom d (pc + 2) (l0 :: l1 :: l2 :: l3 :: l4 :: l5 :: l6 :: l7 :: l8 :: l9 :: some (.long x) :: none :: r) st h Q) : At y dom d pc (l0 :: l1 :: l2 :: l3 :: l4 :: l5 :: l6 :: l7 :: l8 :: l9 :: l10 :: l11 :: r) (.long x :: st) h Q := ax_lstore hd hb (congrArg (fun q : List (Option Value) => q.set 11 none) (mh_s1_10 hp)) K
theorem ax_istore11 {l0 l1 l2 l3 l4 l5 l6 l7 l8 l9 l10 l11 : Option Value} {r : List (Option Value)} {x : Int32} (hd : decode y.2.1 pc = .ok (.istore 11, 2)) (hp : mh_nl l10 = true) (hb : 11 < y.2.2.1) (K : At y dom d (pc + 2) (l0 :: l1 :: l2 :: l3 :: l4 :: l5 :: l6 :: l7 :: l8 :: l9 :: l10 :: some (.int x) :: r) st h Q) : At y dom d pc (l0 :: l1 :: l2 :: l3 :: l4 :: l5 :: l6 :: l7 :: l8 :: l9 :: l10 :: l11 :: r) (.int x :: st) h Q := ax_istore hd hb (mh_s1_11 hp) K
theorem ax_astore11 {l0 l1 l2 l3 l4 l5 l6 l7 l8 l9 l10 l11 : Option Value} {r : List (Option Value)} {x : Nat} (hd : decode y.2.1 pc = .ok (.astore 11, 2)) (hp : mh_nl l10 = true) (hb : 11 < y.2.2.1) (K : At y dom d (pc + 2) (l0 :: l1 :: l2 :: l3 :: l4 :: l5 :: l6 :: l7 :: l8 :: l9 :: l10 :: some (.ref x) :: r) st h Q) : At y dom d pc (l0 :: l1 :: l2 :: l3 :: l4 :: l5 :: l6 :: l7 :: l8 :: l9 :: l10 :: l11 :: r) (.ref x :: st) h Q := ax_astore hd hb (mh_s1_11 hp) K
theorem ax_iinc11 {l0 l1 l2 l3 l4 l5 l6 l7 l8 l9 l10 : Option Value} {r : List (Option Value)} {n : Int} {x v : Int32} (hd : decode y.2.1 pc = .ok (.iinc 11 n, 3)) (hp : mh_nl l10 = true) (hb : 11 < y.2.2.1) (hv : x + Int32.ofInt n = v) (K : At y dom d (pc + 3) (l0 :: l1 :: l2 :: l3 :: l4 :: l5 :: l6 :: l7 :: l8 :: l9 :: l10 :: some (.int v) :: r) st h Q) : At y dom d pc (l0 :: l1 :: l2 :: l3 :: l4 :: l5 :: l6 :: l7 :: l8 :: l9 :: l10 :: some (.int x) :: r) st h Q := ax_iinc hd rfl hb hv (mh_s1_11 hp) K
theorem ax_lstore11 {l0 l1 l2 l3 l4 l5 l6 l7 l8 l9 l10 l11 l12 : Option Value} {r : List (Option Value)} {x : Int64} (hd : decode y.2.1 pc = .ok (.lstore 11, 2)) (hp : mh_nl l10 = true) (hb : 11 + 1 < y.2.2.1) (K : At y dom d (pc + 2) (l0 :: l1 :: l2 :: l3 :: l4 :: l5 :: l6 :: l7 :: l8 :: l9 :: l10 :: some (.long x) :: none :: r) st h Q) : At y dom d pc (l0 :: l1 :: l2 :: l3 :: l4 :: l5 :: l6 :: l7 :: l8 :: l9 :: l10 :: l11 :: l12 :: r) (.long x :: st) h Q := ax_lstore hd hb (congrArg (fun q : List (Option Value) => q.set 12 none) (mh_s1_11 hp)) K
theorem ax_cVi0 {idx d' : Nat} {b ci : Nat} {fs : List Value} {P : Int32 → mh_H → Prop} (hs : mx_V y.1.cls z idx ci 0) (hd : decode y.2.1 pc = .ok (.invokevirtual idx, 3)) (hdd : d' + 1 ≤ d) (ha : h b = mh_ob ci fs) (hcat : (rest.map fun v => v.category).sum ≤ 8) (hM : Mt z dom d' (.ref b :: []) h (mx_Ri P)) (K : ∀ v h', P v h' → At y dom d (pc + 3) L (.int v :: rest) h' Q) : At y dom d pc L (.ref b :: rest) h Q := ax_callV (As := []) (rest := rest) hs hd hdd ha rfl hcat hM (fun r h' hq => by obtain ⟨v, rfl, hq⟩ := hq; exact K v h' hq)
theorem ax_eVi0 {idx d' : Nat} {b ci : Nat} {fs : List Value} {v : Int32} {h1 : mh_H} (hs : mx_V y.1.cls z idx ci 0) (hd : decode y.2.1 pc = .ok (.invokevirtual idx, 3)) (hdd : d' + 1 ≤ d) (ha : h b = mh_ob ci fs) (hcat : (rest.map fun v => v.category).sum ≤ 8) (hM : Mt z dom d' (.ref b :: []) h (mx_Ri (fun v' h' => v' = v ∧ h' = h1))) (K : At y dom d (pc + 3) L (.int v :: rest) h1 Q) : At y dom d pc L (.ref b :: rest) h Q := ax_cVi0 hs hd hdd ha hcat hM (fun v' h' hq => by obtain ⟨rfl, rfl⟩ := hq; exact K)
theorem ax_cVl0 {idx d' : Nat} {b ci : Nat} {fs : List Value} {P : Int64 → mh_H → Prop} (hs : mx_V y.1.cls z idx ci 0) (hd : decode y.2.1 pc = .ok (.invokevirtual idx, 3)) (hdd : d' + 1 ≤ d) (ha : h b = mh_ob ci fs) (hcat : (rest.map fun v => v.category).sum ≤ 8) (hM : Mt z dom d' (.ref b :: []) h (mx_Rl P)) (K : ∀ v h', P v h' → At y dom d (pc + 3) L (.long v :: rest) h' Q) : At y dom d pc L (.ref b :: rest) h Q := ax_callV (As := []) (rest := rest) hs hd hdd ha rfl hcat hM (fun r h' hq => by obtain ⟨v, rfl, hq⟩ := hq; exact K v h' hq)
theorem ax_eVl0 {idx d' : Nat} {b ci : Nat} {fs : List Value} {v : Int64} {h1 : mh_H} (hs : mx_V y.1.cls z idx ci 0) (hd : decode y.2.1 pc = .ok (.invokevirtual idx, 3)) (hdd : d' + 1 ≤ d) (ha : h b = mh_ob ci fs) (hcat : (rest.map fun v => v.category).sum ≤ 8) (hM : Mt z dom d' (.ref b :: []) h (mx_Rl (fun v' h' => v' = v ∧ h' = h1))) (K : At y dom d (pc + 3) L (.long v :: rest) h1 Q) : At y dom d pc L (.ref b :: rest) h Q := ax_cVl0 hs hd hdd ha hcat hM (fun v' h' hq => by obtain ⟨rfl, rfl⟩ := hq; exact K)
theorem ax_cVv0 {idx d' : Nat} {b ci : Nat} {fs : List Value} {P : mh_H → Prop} (hs : mx_V y.1.cls z idx ci 0) (hd : decode y.2.1 pc = .ok (.invokevirtual idx, 3)) (hdd : d' + 1 ≤ d) (ha : h b = mh_ob ci fs) (hcat : (rest.map fun v => v.category).sum ≤ 8) (hM : Mt z dom d' (.ref b :: []) h (mx_Rv P)) (K : ∀ h', P h' → At y dom d (pc + 3) L rest h' Q) : At y dom d pc L (.ref b :: rest) h Q := ax_callV (As := []) (rest := rest) hs hd hdd ha rfl hcat hM (fun r h' hq => by obtain ⟨rfl, hq⟩ := hq; exact K h' hq)
theorem ax_eVv0 {idx d' : Nat} {b ci : Nat} {fs : List Value} {h1 : mh_H} (hs : mx_V y.1.cls z idx ci 0) (hd : decode y.2.1 pc = .ok (.invokevirtual idx, 3)) (hdd : d' + 1 ≤ d) (ha : h b = mh_ob ci fs) (hcat : (rest.map fun v => v.category).sum ≤ 8) (hM : Mt z dom d' (.ref b :: []) h (mx_Rv (fun h' => h' = h1))) (K : At y dom d (pc + 3) L rest h1 Q) : At y dom d pc L (.ref b :: rest) h Q := ax_cVv0 hs hd hdd ha hcat hM (fun h' hq => by subst hq; exact K)
theorem ax_cVi1 {idx d' : Nat} {b ci : Nat} {fs : List Value} {a1 : Value} {P : Int32 → mh_H → Prop} (hs : mx_V y.1.cls z idx ci 1) (hd : decode y.2.1 pc = .ok (.invokevirtual idx, 3)) (hdd : d' + 1 ≤ d) (ha : h b = mh_ob ci fs) (hcat : (rest.map fun v => v.category).sum ≤ 8) (hM : Mt z dom d' (.ref b :: [a1]) h (mx_Ri P)) (K : ∀ v h', P v h' → At y dom d (pc + 3) L (.int v :: rest) h' Q) : At y dom d pc L (a1 :: .ref b :: rest) h Q := ax_callV (As := [a1]) (rest := rest) hs hd hdd ha rfl hcat hM (fun r h' hq => by obtain ⟨v, rfl, hq⟩ := hq; exact K v h' hq)
theorem ax_eVi1 {idx d' : Nat} {b ci : Nat} {fs : List Value} {a1 : Value} {v : Int32} {h1 : mh_H} (hs : mx_V y.1.cls z idx ci 1) (hd : decode y.2.1 pc = .ok (.invokevirtual idx, 3)) (hdd : d' + 1 ≤ d) (ha : h b = mh_ob ci fs) (hcat : (rest.map fun v => v.category).sum ≤ 8) (hM : Mt z dom d' (.ref b :: [a1]) h (mx_Ri (fun v' h' => v' = v ∧ h' = h1))) (K : At y dom d (pc + 3) L (.int v :: rest) h1 Q) : At y dom d pc L (a1 :: .ref b :: rest) h Q := ax_cVi1 hs hd hdd ha hcat hM (fun v' h' hq => by obtain ⟨rfl, rfl⟩ := hq; exact K)
theorem ax_cVl1 {idx d' : Nat} {b ci : Nat} {fs : List Value} {a1 : Value} {P : Int64 → mh_H → Prop} (hs : mx_V y.1.cls z idx ci 1) (hd : decode y.2.1 pc = .ok (.invokevirtual idx, 3)) (hdd : d' + 1 ≤ d) (ha : h b = mh_ob ci fs) (hcat : (rest.map fun v => v.category).sum ≤ 8) (hM : Mt z dom d' (.ref b :: [a1]) h (mx_Rl P)) (K : ∀ v h', P v h' → At y dom d (pc + 3) L (.long v :: rest) h' Q) : At y dom d pc L (a1 :: .ref b :: rest) h Q := ax_callV (As := [a1]) (rest := rest) hs hd hdd ha rfl hcat hM (fun r h' hq => by obtain ⟨v, rfl, hq⟩ := hq; exact K v h' hq)
theorem ax_eVl1 {idx d' : Nat} {b ci : Nat} {fs : List Value} {a1 : Value} {v : Int64} {h1 : mh_H} (hs : mx_V y.1.cls z idx ci 1) (hd : decode y.2.1 pc = .ok (.invokevirtual idx, 3)) (hdd : d' + 1 ≤ d) (ha : h b = mh_ob ci fs) (hcat : (rest.map fun v => v.category).sum ≤ 8) (hM : Mt z dom d' (.ref b :: [a1]) h (mx_Rl (fun v' h' => v' = v ∧ h' = h1))) (K : At y dom d (pc + 3) L (.long v :: rest) h1 Q) : At y dom d pc L (a1 :: .ref b :: rest) h Q := ax_cVl1 hs hd hdd ha hcat hM (fun v' h' hq => by obtain ⟨rfl, rfl⟩ := hq; exact K)
theorem ax_cVv1 {idx d' : Nat} {b ci : Nat} {fs : List Value} {a1 : Value} {P : mh_H → Prop} (hs : mx_V y.1.cls z idx ci 1) (hd : decode y.2.1 pc = .ok (.invokevirtual idx, 3)) (hdd : d' + 1 ≤ d) (ha : h b = mh_ob ci fs) (hcat : (rest.map fun v => v.category).sum ≤ 8) (hM : Mt z dom d' (.ref b :: [a1]) h (mx_Rv P)) (K : ∀ h', P h' → At y dom d (pc + 3) L rest h' Q) : At y dom d pc L (a1 :: .ref b :: rest) h Q := ax_callV (As := [a1]) (rest := rest) hs hd hdd ha rfl hcat hM (fun r h' hq => by obtain ⟨rfl, hq⟩ := hq; exact K h' hq)
theorem ax_eVv1 {idx d' : Nat} {b ci : Nat} {fs : List Value} {a1 : Value} {h1 : mh_H} (hs : mx_V y.1.cls z idx ci 1) (hd : decode y.2.1 pc = .ok (.invokevirtual idx, 3)) (hdd : d' + 1 ≤ d) (ha : h b = mh_ob ci fs) (hcat : (rest.map fun v => v.category).sum ≤ 8) (hM : Mt z dom d' (.ref b :: [a1]) h (mx_Rv (fun h' => h' = h1))) (K : At y dom d (pc + 3) L rest h1 Q) : At y dom d pc L (a1 :: .ref b :: rest) h Q := ax_cVv1 hs hd hdd ha hcat hM (fun h' hq => by subst hq; exact K)
theorem ax_cVi2 {idx d' : Nat} {b ci : Nat} {fs : List Value} {a1 a2 : Value} {P : Int32 → mh_H → Prop} (hs : mx_V y.1.cls z idx ci 2) (hd : decode y.2.1 pc = .ok (.invokevirtual idx, 3)) (hdd : d' + 1 ≤ d) (ha : h b = mh_ob ci fs) (hcat : (rest.map fun v => v.category).sum ≤ 8) (hM : Mt z dom d' (.ref b :: [a1, a2]) h (mx_Ri P)) (K : ∀ v h', P v h' → At y dom d (pc + 3) L (.int v :: rest) h' Q) : At y dom d pc L (a2 :: a1 :: .ref b :: rest) h Q := ax_callV (As := [a1, a2]) (rest := rest) hs hd hdd ha rfl hcat hM (fun r h' hq => by obtain ⟨v, rfl, hq⟩ := hq; exact K v h' hq)
theorem ax_eVi2 {idx d' : Nat} {b ci : Nat} {fs : List Value} {a1 a2 : Value} {v : Int32} {h1 : mh_H} (hs : mx_V y.1.cls z idx ci 2) (hd : decode y.2.1 pc = .ok (.invokevirtual idx, 3)) (hdd : d' + 1 ≤ d) (ha : h b = mh_ob ci fs) (hcat : (rest.map fun v => v.category).sum ≤ 8) (hM : Mt z dom d' (.ref b :: [a1, a2]) h (mx_Ri (fun v' h' => v' = v ∧ h' = h1))) (K : At y dom d (pc + 3) L (.int v :: rest) h1 Q) : At y dom d pc L (a2 :: a1 :: .ref b :: rest) h Q := ax_cVi2 hs hd hdd ha hcat hM (fun v' h' hq => by obtain ⟨rfl, rfl⟩ := hq; exact K)
theorem ax_cVl2 {idx d' : Nat} {b ci : Nat} {fs : List Value} {a1 a2 : Value} {P : Int64 → mh_H → Prop} (hs : mx_V y.1.cls z idx ci 2) (hd : decode y.2.1 pc = .ok (.invokevirtual idx, 3)) (hdd : d' + 1 ≤ d) (ha : h b = mh_ob ci fs) (hcat : (rest.map fun v => v.category).sum ≤ 8) (hM : Mt z dom d' (.ref b :: [a1, a2]) h (mx_Rl P)) (K : ∀ v h', P v h' → At y dom d (pc + 3) L (.long v :: rest) h' Q) : At y dom d pc L (a2 :: a1 :: .ref b :: rest) h Q := ax_callV (As := [a1, a2]) (rest := rest) hs hd hdd ha rfl hcat hM (fun r h' hq => by obtain ⟨v, rfl, hq⟩ := hq; exact K v h' hq)
theorem ax_eVl2 {idx d' : Nat} {b ci : Nat} {fs : List Value} {a1 a2 : Value} {v : Int64} {h1 : mh_H} (hs : mx_V y.1.cls z idx ci 2) (hd : decode y.2.1 pc = .ok (.invokevirtual idx, 3)) (hdd : d' + 1 ≤ d) (ha : h b = mh_ob ci fs) (hcat : (rest.map fun v => v.category).sum ≤ 8) (hM : Mt z dom d' (.ref b :: [a1, a2]) h (mx_Rl (fun v' h' => v' = v ∧ h' = h1))) (K : At y dom d (pc + 3) L (.long v :: rest) h1 Q) : At y dom d pc L (a2 :: a1 :: .ref b :: rest) h Q := ax_cVl2 hs hd hdd ha hcat hM (fun v' h' hq => by obtain ⟨rfl, rfl⟩ := hq; exact K)
theorem ax_cVv2 {idx d' : Nat} {b ci : Nat} {fs : List Value} {a1 a2 : Value} {P : mh_H → Prop} (hs : mx_V y.1.cls z idx ci 2) (hd : decode y.2.1 pc = .ok (.invokevirtual idx, 3)) (hdd : d' + 1 ≤ d) (ha : h b = mh_ob ci fs) (hcat : (rest.map fun v => v.category).sum ≤ 8) (hM : Mt z dom d' (.ref b :: [a1, a2]) h (mx_Rv P)) (K : ∀ h', P h' → At y dom d (pc + 3) L rest h' Q) : At y dom d pc L (a2 :: a1 :: .ref b :: rest) h Q := ax_callV (As := [a1, a2]) (rest := rest) hs hd hdd ha rfl hcat hM (fun r h' hq => by obtain ⟨rfl, hq⟩ := hq; exact K h' hq)
theorem ax_eVv2 {idx d' : Nat} {b ci : Nat} {fs : List Value} {a1 a2 : Value} {h1 : mh_H} (hs : mx_V y.1.cls z idx ci 2) (hd : decode y.2.1 pc = .ok (.invokevirtual idx, 3)) (hdd : d' + 1 ≤ d) (ha : h b = mh_ob ci fs) (hcat : (rest.map fun v => v.category).sum ≤ 8) (hM : Mt z dom d' (.ref b :: [a1, a2]) h (mx_Rv (fun h' => h' = h1))) (K : At y dom d (pc + 3) L rest h1 Q) : At y dom d pc L (a2 :: a1 :: .ref b :: rest) h Q := ax_cVv2 hs hd hdd ha hcat hM (fun h' hq => by subst hq; exact K)
theorem ax_cVi3 {idx d' : Nat} {b ci : Nat} {fs : List Value} {a1 a2 a3 : Value} {P : Int32 → mh_H → Prop} (hs : mx_V y.1.cls z idx ci 3) (hd : decode y.2.1 pc = .ok (.invokevirtual idx, 3)) (hdd : d' + 1 ≤ d) (ha : h b = mh_ob ci fs) (hcat : (rest.map fun v => v.category).sum ≤ 8) (hM : Mt z dom d' (.ref b :: [a1, a2, a3]) h (mx_Ri P)) (K : ∀ v h', P v h' → At y dom d (pc + 3) L (.int v :: rest) h' Q) : At y dom d pc L (a3 :: a2 :: a1 :: .ref b :: rest) h Q := ax_callV (As := [a1, a2, a3]) (rest := rest) hs hd hdd ha rfl hcat hM (fun r h' hq => by obtain ⟨v, rfl, hq⟩ := hq; exact K v h' hq)
theorem ax_eVi3 {idx d' : Nat} {b ci : Nat} {fs : List Value} {a1 a2 a3 : Value} {v : Int32} {h1 : mh_H} (hs : mx_V y.1.cls z idx ci 3) (hd : decode y.2.1 pc = .ok (.invokevirtual idx, 3)) (hdd : d' + 1 ≤ d) (ha : h b = mh_ob ci fs) (hcat : (rest.map fun v => v.category).sum ≤ 8) (hM : Mt z dom d' (.ref b :: [a1, a2, a3]) h (mx_Ri (fun v' h' => v' = v ∧ h' = h1))) (K : At y dom d (pc + 3) L (.int v :: rest) h1 Q) : At y dom d pc L (a3 :: a2 :: a1 :: .ref b :: rest) h Q := ax_cVi3 hs hd hdd ha hcat hM (fun v' h' hq => by obtain ⟨rfl, rfl⟩ := hq; exact K)
theorem ax_cVl3 {idx d' : Nat} {b ci : Nat} {fs : List Value} {a1 a2 a3 : Value} {P : Int64 → mh_H → Prop} (hs : mx_V y.1.cls z idx ci 3) (hd : decode y.2.1 pc = .ok (.invokevirtual idx, 3)) (hdd : d' + 1 ≤ d) (ha : h b = mh_ob ci fs) (hcat : (rest.map fun v => v.category).sum ≤ 8) (hM : Mt z dom d' (.ref b :: [a1, a2, a3]) h (mx_Rl P)) (K : ∀ v h', P v h' → At y dom d (pc + 3) L (.long v :: rest) h' Q) : At y dom d pc L (a3 :: a2 :: a1 :: .ref b :: rest) h Q := ax_callV (As := [a1, a2, a3]) (rest := rest) hs hd hdd ha rfl hcat hM (fun r h' hq => by obtain ⟨v, rfl, hq⟩ := hq; exact K v h' hq)
theorem ax_eVl3 {idx d' : Nat} {b ci : Nat} {fs : List Value} {a1 a2 a3 : Value} {v : Int64} {h1 : mh_H} (hs : mx_V y.1.cls z idx ci 3) (hd : decode y.2.1 pc = .ok (.invokevirtual idx, 3)) (hdd : d' + 1 ≤ d) (ha : h b = mh_ob ci fs) (hcat : (rest.map fun v => v.category).sum ≤ 8) (hM : Mt z dom d' (.ref b :: [a1, a2, a3]) h (mx_Rl (fun v' h' => v' = v ∧ h' = h1))) (K : At y dom d (pc + 3) L (.long v :: rest) h1 Q) : At y dom d pc L (a3 :: a2 :: a1 :: .ref b :: rest) h Q := ax_cVl3 hs hd hdd ha hcat hM (fun v' h' hq => by obtain ⟨rfl, rfl⟩ := hq; exact K)
theorem ax_cVv3 {idx d' : Nat} {b ci : Nat} {fs : List Value} {a1 a2 a3 : Value} {P : mh_H → Prop} (hs : mx_V y.1.cls z idx ci 3) (hd : decode y.2.1 pc = .ok (.invokevirtual idx, 3)) (hdd : d' + 1 ≤ d) (ha : h b = mh_ob ci fs) (hcat : (rest.map fun v => v.category).sum ≤ 8) (hM : Mt z dom d' (.ref b :: [a1, a2, a3]) h (mx_Rv P)) (K : ∀ h', P h' → At y dom d (pc + 3) L rest h' Q) : At y dom d pc L (a3 :: a2 :: a1 :: .ref b :: rest) h Q := ax_callV (As := [a1, a2, a3]) (rest := rest) hs hd hdd ha rfl hcat hM (fun r h' hq => by obtain ⟨rfl, hq⟩ := hq; exact K h' hq)
theorem ax_eVv3 {idx d' : Nat} {b ci : Nat} {fs : List Value} {a1 a2 a3 : Value} {h1 : mh_H} (hs : mx_V y.1.cls z idx ci 3) (hd : decode y.2.1 pc = .ok (.invokevirtual idx, 3)) (hdd : d' + 1 ≤ d) (ha : h b = mh_ob ci fs) (hcat : (rest.map fun v => v.category).sum ≤ 8) (hM : Mt z dom d' (.ref b :: [a1, a2, a3]) h (mx_Rv (fun h' => h' = h1))) (K : At y dom d (pc + 3) L rest h1 Q) : At y dom d pc L (a3 :: a2 :: a1 :: .ref b :: rest) h Q := ax_cVv3 hs hd hdd ha hcat hM (fun h' hq => by subst hq; exact K)
theorem ax_cVi4 {idx d' : Nat} {b ci : Nat} {fs : List Value} {a1 a2 a3 a4 : Value} {P : Int32 → mh_H → Prop} (hs : mx_V y.1.cls z idx ci 4) (hd : decode y.2.1 pc = .ok (.invokevirtual idx, 3)) (hdd : d' + 1 ≤ d) (ha : h b = mh_ob ci fs) (hcat : (rest.map fun v => v.category).sum ≤ 8) (hM : Mt z dom d' (.ref b :: [a1, a2, a3, a4]) h (mx_Ri P)) (K : ∀ v h', P v h' → At y dom d (pc + 3) L (.int v :: rest) h' Q) : At y dom d pc L (a4 :: a3 :: a2 :: a1 :: .ref b :: rest) h Q := ax_callV (As := [a1, a2, a3, a4]) (rest := rest) hs hd hdd ha rfl hcat hM (fun r h' hq => by obtain ⟨v, rfl, hq⟩ := hq; exact K v h' hq)
theorem ax_eVi4 {idx d' : Nat} {b ci : Nat} {fs : List Value} {a1 a2 a3 a4 : Value} {v : Int32} {h1 : mh_H} (hs : mx_V y.1.cls z idx ci 4) (hd : decode y.2.1 pc = .ok (.invokevirtual idx, 3)) (hdd : d' + 1 ≤ d) (ha : h b = mh_ob ci fs) (hcat : (rest.map fun v => v.category).sum ≤ 8) (hM : Mt z dom d' (.ref b :: [a1, a2, a3, a4]) h (mx_Ri (fun v' h' => v' = v ∧ h' = h1))) (K : At y dom d (pc + 3) L (.int v :: rest) h1 Q) : At y dom d pc L (a4 :: a3 :: a2 :: a1 :: .ref b :: rest) h Q := ax_cVi4 hs hd hdd ha hcat hM (fun v' h' hq => by obtain ⟨rfl, rfl⟩ := hq; exact K)
theorem ax_cVl4 {idx d' : Nat} {b ci : Nat} {fs : List Value} {a1 a2 a3 a4 : Value} {P : Int64 → mh_H → Prop} (hs : mx_V y.1.cls z idx ci 4) (hd : decode y.2.1 pc = .ok (.invokevirtual idx, 3)) (hdd : d' + 1 ≤ d) (ha : h b = mh_ob ci fs) (hcat : (rest.map fun v => v.category).sum ≤ 8) (hM : Mt z dom d' (.ref b :: [a1, a2, a3, a4]) h (mx_Rl P)) (K : ∀ v h', P v h' → At y dom d (pc + 3) L (.long v :: rest) h' Q) : At y dom d pc L (a4 :: a3 :: a2 :: a1 :: .ref b :: rest) h Q := ax_callV (As := [a1, a2, a3, a4]) (rest := rest) hs hd hdd ha rfl hcat hM (fun r h' hq => by obtain ⟨v, rfl, hq⟩ := hq; exact K v h' hq)
theorem ax_eVl4 {idx d' : Nat} {b ci : Nat} {fs : List Value} {a1 a2 a3 a4 : Value} {v : Int64} {h1 : mh_H} (hs : mx_V y.1.cls z idx ci 4) (hd : decode y.2.1 pc = .ok (.invokevirtual idx, 3)) (hdd : d' + 1 ≤ d) (ha : h b = mh_ob ci fs) (hcat : (rest.map fun v => v.category).sum ≤ 8) (hM : Mt z dom d' (.ref b :: [a1, a2, a3, a4]) h (mx_Rl (fun v' h' => v' = v ∧ h' = h1))) (K : At y dom d (pc + 3) L (.long v :: rest) h1 Q) : At y dom d pc L (a4 :: a3 :: a2 :: a1 :: .ref b :: rest) h Q := ax_cVl4 hs hd hdd ha hcat hM (fun v' h' hq => by obtain ⟨rfl, rfl⟩ := hq; exact K)
theorem ax_cVv4 {idx d' : Nat} {b ci : Nat} {fs : List Value} {a1 a2 a3 a4 : Value} {P : mh_H → Prop} (hs : mx_V y.1.cls z idx ci 4) (hd : decode y.2.1 pc = .ok (.invokevirtual idx, 3)) (hdd : d' + 1 ≤ d) (ha : h b = mh_ob ci fs) (hcat : (rest.map fun v => v.category).sum ≤ 8) (hM : Mt z dom d' (.ref b :: [a1, a2, a3, a4]) h (mx_Rv P)) (K : ∀ h', P h' → At y dom d (pc + 3) L rest h' Q) : At y dom d pc L (a4 :: a3 :: a2 :: a1 :: .ref b :: rest) h Q := ax_callV (As := [a1, a2, a3, a4]) (rest := rest) hs hd hdd ha rfl hcat hM (fun r h' hq => by obtain ⟨rfl, hq⟩ := hq; exact K h' hq)
theorem ax_eVv4 {idx d' : Nat} {b ci : Nat} {fs : List Value} {a1 a2 a3 a4 : Value} {h1 : mh_H} (hs : mx_V y.1.cls z idx ci 4) (hd : decode y.2.1 pc = .ok (.invokevirtual idx, 3)) (hdd : d' + 1 ≤ d) (ha : h b = mh_ob ci fs) (hcat : (rest.map fun v => v.category).sum ≤ 8) (hM : Mt z dom d' (.ref b :: [a1, a2, a3, a4]) h (mx_Rv (fun h' => h' = h1))) (K : At y dom d (pc + 3) L rest h1 Q) : At y dom d pc L (a4 :: a3 :: a2 :: a1 :: .ref b :: rest) h Q := ax_cVv4 hs hd hdd ha hcat hM (fun h' hq => by subst hq; exact K)
theorem ax_cVi5 {idx d' : Nat} {b ci : Nat} {fs : List Value} {a1 a2 a3 a4 a5 : Value} {P : Int32 → mh_H → Prop} (hs : mx_V y.1.cls z idx ci 5) (hd : decode y.2.1 pc = .ok (.invokevirtual idx, 3)) (hdd : d' + 1 ≤ d) (ha : h b = mh_ob ci fs) (hcat : (rest.map fun v => v.category).sum ≤ 8) (hM : Mt z dom d' (.ref b :: [a1, a2, a3, a4, a5]) h (mx_Ri P)) (K : ∀ v h', P v h' → At y dom d (pc + 3) L (.int v :: rest) h' Q) : At y dom d pc L (a5 :: a4 :: a3 :: a2 :: a1 :: .ref b :: rest) h Q := ax_callV (As := [a1, a2, a3, a4, a5]) (rest := rest) hs hd hdd ha rfl hcat hM (fun r h' hq => by obtain ⟨v, rfl, hq⟩ := hq; exact K v h' hq)
theorem ax_eVi5 {idx d' : Nat} {b ci : Nat} {fs : List Value} {a1 a2 a3 a4 a5 : Value} {v : Int32} {h1 : mh_H} (hs : mx_V y.1.cls z idx ci 5) (hd : decode y.2.1 pc = .ok (.invokevirtual idx, 3)) (hdd : d' + 1 ≤ d) (ha : h b = mh_ob ci fs) (hcat : (rest.map fun v => v.category).sum ≤ 8) (hM : Mt z dom d' (.ref b :: [a1, a2, a3, a4, a5]) h (mx_Ri (fun v' h' => v' = v ∧ h' = h1))) (K : At y dom d (pc + 3) L (.int v :: rest) h1 Q) : At y dom d pc L (a5 :: a4 :: a3 :: a2 :: a1 :: .ref b :: rest) h Q := ax_cVi5 hs hd hdd ha hcat hM (fun v' h' hq => by obtain ⟨rfl, rfl⟩ := hq; exact K)
theorem ax_cVl5 {idx d' : Nat} {b ci : Nat} {fs : List Value} {a1 a2 a3 a4 a5 : Value} {P : Int64 → mh_H → Prop} (hs : mx_V y.1.cls z idx ci 5) (hd : decode y.2.1 pc = .ok (.invokevirtual idx, 3)) (hdd : d' + 1 ≤ d) (ha : h b = mh_ob ci fs) (hcat : (rest.map fun v => v.category).sum ≤ 8) (hM : Mt z dom d' (.ref b :: [a1, a2, a3, a4, a5]) h (mx_Rl P)) (K : ∀ v h', P v h' → At y dom d (pc + 3) L (.long v :: rest) h' Q) : At y dom d pc L (a5 :: a4 :: a3 :: a2 :: a1 :: .ref b :: rest) h Q := ax_callV (As := [a1, a2, a3, a4, a5]) (rest := rest) hs hd hdd ha rfl hcat hM (fun r h' hq => by obtain ⟨v, rfl, hq⟩ := hq; exact K v h' hq)
theorem ax_eVl5 {idx d' : Nat} {b ci : Nat} {fs : List Value} {a1 a2 a3 a4 a5 : Value} {v : Int64} {h1 : mh_H} (hs : mx_V y.1.cls z idx ci 5) (hd : decode y.2.1 pc = .ok (.invokevirtual idx, 3)) (hdd : d' + 1 ≤ d) (ha : h b = mh_ob ci fs) (hcat : (rest.map fun v => v.category).sum ≤ 8) (hM : Mt z dom d' (.ref b :: [a1, a2, a3, a4, a5]) h (mx_Rl (fun v' h' => v' = v ∧ h' = h1))) (K : At y dom d (pc + 3) L (.long v :: rest) h1 Q) : At y dom d pc L (a5 :: a4 :: a3 :: a2 :: a1 :: .ref b :: rest) h Q := ax_cVl5 hs hd hdd ha hcat hM (fun v' h' hq => by obtain ⟨rfl, rfl⟩ := hq; exact K)
theorem ax_cVv5 {idx d' : Nat} {b ci : Nat} {fs : List Value} {a1 a2 a3 a4 a5 : Value} {P : mh_H → Prop} (hs : mx_V y.1.cls z idx ci 5) (hd : decode y.2.1 pc = .ok (.invokevirtual idx, 3)) (hdd : d' + 1 ≤ d) (ha : h b = mh_ob ci fs) (hcat : (rest.map fun v => v.category).sum ≤ 8) (hM : Mt z dom d' (.ref b :: [a1, a2, a3, a4, a5]) h (mx_Rv P)) (K : ∀ h', P h' → At y dom d (pc + 3) L rest h' Q) : At y dom d pc L (a5 :: a4 :: a3 :: a2 :: a1 :: .ref b :: rest) h Q := ax_callV (As := [a1, a2, a3, a4, a5]) (rest := rest) hs hd hdd ha rfl hcat hM (fun r h' hq => by obtain ⟨rfl, hq⟩ := hq; exact K h' hq)
theorem ax_eVv5 {idx d' : Nat} {b ci : Nat} {fs : List Value} {a1 a2 a3 a4 a5 : Value} {h1 : mh_H} (hs : mx_V y.1.cls z idx ci 5) (hd : decode y.2.1 pc = .ok (.invokevirtual idx, 3)) (hdd : d' + 1 ≤ d) (ha : h b = mh_ob ci fs) (hcat : (rest.map fun v => v.category).sum ≤ 8) (hM : Mt z dom d' (.ref b :: [a1, a2, a3, a4, a5]) h (mx_Rv (fun h' => h' = h1))) (K : At y dom d (pc + 3) L rest h1 Q) : At y dom d pc L (a5 :: a4 :: a3 :: a2 :: a1 :: .ref b :: rest) h Q := ax_cVv5 hs hd hdd ha hcat hM (fun h' hq => by subst hq; exact K)
theorem ax_cVi6 {idx d' : Nat} {b ci : Nat} {fs : List Value} {a1 a2 a3 a4 a5 a6 : Value} {P : Int32 → mh_H → Prop} (hs : mx_V y.1.cls z idx ci 6) (hd : decode y.2.1 pc = .ok (.invokevirtual idx, 3)) (hdd : d' + 1 ≤ d) (ha : h b = mh_ob ci fs) (hcat : (rest.map fun v => v.category).sum ≤ 8) (hM : Mt z dom d' (.ref b :: [a1, a2, a3, a4, a5, a6]) h (mx_Ri P)) (K : ∀ v h', P v h' → At y dom d (pc + 3) L (.int v :: rest) h' Q) : At y dom d pc L (a6 :: a5 :: a4 :: a3 :: a2 :: a1 :: .ref b :: rest) h Q := ax_callV (As := [a1, a2, a3, a4, a5, a6]) (rest := rest) hs hd hdd ha rfl hcat hM (fun r h' hq => by obtain ⟨v, rfl, hq⟩ := hq; exact K v h' hq)
theorem ax_eVi6 {idx d' : Nat} {b ci : Nat} {fs : List Value} {a1 a2 a3 a4 a5 a6 : Value} {v : Int32} {h1 : mh_H} (hs : mx_V y.1.cls z idx ci 6) (hd : decode y.2.1 pc = .ok (.invokevirtual idx, 3)) (hdd : d' + 1 ≤ d) (ha : h b = mh_ob ci fs) (hcat : (rest.map fun v => v.category).sum ≤ 8) (hM : Mt z dom d' (.ref b :: [a1, a2, a3, a4, a5, a6]) h (mx_Ri (fun v' h' => v' = v ∧ h' = h1))) (K : At y dom d (pc + 3) L (.int v :: rest) h1 Q) : At y dom d pc L (a6 :: a5 :: a4 :: a3 :: a2 :: a1 :: .ref b :: rest) h Q := ax_cVi6 hs hd hdd ha hcat hM (fun v' h' hq => by obtain ⟨rfl, rfl⟩ := hq; exact K)
theorem ax_cVl6 {idx d' : Nat} {b ci : Nat} {fs : List Value} {a1 a2 a3 a4 a5 a6 : Value} {P : Int64 → mh_H → Prop} (hs : mx_V y.1.cls z idx ci 6) (hd : decode y.2.1 pc = .ok (.invokevirtual idx, 3)) (hdd : d' + 1 ≤ d) (ha : h b = mh_ob ci fs) (hcat : (rest.map fun v => v.category).sum ≤ 8) (hM : Mt z dom d' (.ref b :: [a1, a2, a3, a4, a5, a6]) h (mx_Rl P)) (K : ∀ v h', P v h' → At y dom d (pc + 3) L (.long v :: rest) h' Q) : At y dom d pc L (a6 :: a5 :: a4 :: a3 :: a2 :: a1 :: .ref b :: rest) h Q := ax_callV (As := [a1, a2, a3, a4, a5, a6]) (rest := rest) hs hd hdd ha rfl hcat hM (fun r h' hq => by obtain ⟨v, rfl, hq⟩ := hq; exact K v h' hq)
theorem ax_eVl6 {idx d' : Nat} {b ci : Nat} {fs : List Value} {a1 a2 a3 a4 a5 a6 : Value} {v : Int64} {h1 : mh_H} (hs : mx_V y.1.cls z idx ci 6) (hd : decode y.2.1 pc = .ok (.invokevirtual idx, 3)) (hdd : d' + 1 ≤ d) (ha : h b = mh_ob ci fs) (hcat : (rest.map fun v => v.category).sum ≤ 8) (hM : Mt z dom d' (.ref b :: [a1, a2, a3, a4, a5, a6]) h (mx_Rl (fun v' h' => v' = v ∧ h' = h1))) (K : At y dom d (pc + 3) L (.long v :: rest) h1 Q) : At y dom d pc L (a6 :: a5 :: a4 :: a3 :: a2 :: a1 :: .ref b :: rest) h Q := ax_cVl6 hs hd hdd ha hcat hM (fun v' h' hq => by obtain ⟨rfl, rfl⟩ := hq; exact K)
theorem ax_cVv6 {idx d' : Nat} {b ci : Nat} {fs : List Value} {a1 a2 a3 a4 a5 a6 : Value} {P : mh_H → Prop} (hs : mx_V y.1.cls z idx ci 6) (hd : decode y.2.1 pc = .ok (.invokevirtual idx, 3)) (hdd : d' + 1 ≤ d) (ha : h b = mh_ob ci fs) (hcat : (rest.map fun v => v.category).sum ≤ 8) (hM : Mt z dom d' (.ref b :: [a1, a2, a3, a4, a5, a6]) h (mx_Rv P)) (K : ∀ h', P h' → At y dom d (pc + 3) L rest h' Q) : At y dom d pc L (a6 :: a5 :: a4 :: a3 :: a2 :: a1 :: .ref b :: rest) h Q := ax_callV (As := [a1, a2, a3, a4, a5, a6]) (rest := rest) hs hd hdd ha rfl hcat hM (fun r h' hq => by obtain ⟨rfl, hq⟩ := hq; exact K h' hq)
theorem ax_eVv6 {idx d' : Nat} {b ci : Nat} {fs : List Value} {a1 a2 a3 a4 a5 a6 : Value} {h1 : mh_H} (hs : mx_V y.1.cls z idx ci 6) (hd : decode y.2.1 pc = .ok (.invokevirtual idx, 3)) (hdd : d' + 1 ≤ d) (ha : h b = mh_ob ci fs) (hcat : (rest.map fun v => v.category).sum ≤ 8) (hM : Mt z dom d' (.ref b :: [a1, a2, a3, a4, a5, a6]) h (mx_Rv (fun h' => h' = h1))) (K : At y dom d (pc + 3) L rest h1 Q) : At y dom d pc L (a6 :: a5 :: a4 :: a3 :: a2 :: a1 :: .ref b :: rest) h Q := ax_cVv6 hs hd hdd ha hcat hM (fun h' hq => by subst hq; exact K)
theorem ax_cSi1 {idx d' : Nat} {a1 : Value} {P : Int32 → mh_H → Prop} (hs : mx_S y.1.cls z idx 1) (hd : decode y.2.1 pc = .ok (.invokestatic idx, 3)) (hdd : d' + 1 ≤ d) (hcat : (rest.map fun v => v.category).sum ≤ 8) (hM : Mt z dom d' [a1] h (mx_Ri P)) (K : ∀ v h', P v h' → At y dom d (pc + 3) L (.int v :: rest) h' Q) : At y dom d pc L (a1 :: rest) h Q := ax_callS (As := [a1]) (rest := rest) hs hd hdd rfl hcat hM (fun r h' hq => by obtain ⟨v, rfl, hq⟩ := hq; exact K v h' hq)
theorem ax_eSi1 {idx d' : Nat} {a1 : Value} {v : Int32} {h1 : mh_H} (hs : mx_S y.1.cls z idx 1) (hd : decode y.2.1 pc = .ok (.invokestatic idx, 3)) (hdd : d' + 1 ≤ d) (hcat : (rest.map fun v => v.category).sum ≤ 8) (hM : Mt z dom d' [a1] h (mx_Ri (fun v' h' => v' = v ∧ h' = h1))) (K : At y dom d (pc + 3) L (.int v :: rest) h1 Q) : At y dom d pc L (a1 :: rest) h Q := ax_cSi1 hs hd hdd hcat hM (fun v' h' hq => by obtain ⟨rfl, rfl⟩ := hq; exact K)
theorem ax_cSl1 {idx d' : Nat} {a1 : Value} {P : Int64 → mh_H → Prop} (hs : mx_S y.1.cls z idx 1) (hd : decode y.2.1 pc = .ok (.invokestatic idx, 3)) (hdd : d' + 1 ≤ d) (hcat : (rest.map fun v => v.category).sum ≤ 8) (hM : Mt z dom d' [a1] h (mx_Rl P)) (K : ∀ v h', P v h' → At y dom d (pc + 3) L (.long v :: rest) h' Q) : At y dom d pc L (a1 :: rest) h Q := ax_callS (As := [a1]) (rest := rest) hs hd hdd rfl hcat hM (fun r h' hq => by obtain ⟨v, rfl, hq⟩ := hq; exact K v h' hq)
theorem ax_eSl1 {idx d' : Nat} {a1 : Value} {v : Int64} {h1 : mh_H} (hs : mx_S y.1.cls z idx 1) (hd : decode y.2.1 pc = .ok (.invokestatic idx, 3)) (hdd : d' + 1 ≤ d) (hcat : (rest.map fun v => v.category).sum ≤ 8) (hM : Mt z dom d' [a1] h (mx_Rl (fun v' h' => v' = v ∧ h' = h1))) (K : At y dom d (pc + 3) L (.long v :: rest) h1 Q) : At y dom d pc L (a1 :: rest) h Q := ax_cSl1 hs hd hdd hcat hM (fun v' h' hq => by obtain ⟨rfl, rfl⟩ := hq; exact K)
theorem ax_cSv1 {idx d' : Nat} {a1 : Value} {P : mh_H → Prop} (hs : mx_S y.1.cls z idx 1) (hd : decode y.2.1 pc = .ok (.invokestatic idx, 3)) (hdd : d' + 1 ≤ d) (hcat : (rest.map fun v => v.category).sum ≤ 8) (hM : Mt z dom d' [a1] h (mx_Rv P)) (K : ∀ h', P h' → At y dom d (pc + 3) L rest h' Q) : At y dom d pc L (a1 :: rest) h Q := ax_callS (As := [a1]) (rest := rest) hs hd hdd rfl hcat hM (fun r h' hq => by obtain ⟨rfl, hq⟩ := hq; exact K h' hq)
theorem ax_eSv1 {idx d' : Nat} {a1 : Value} {h1 : mh_H} (hs : mx_S y.1.cls z idx 1) (hd : decode y.2.1 pc = .ok (.invokestatic idx, 3)) (hdd : d' + 1 ≤ d) (hcat : (rest.map fun v => v.category).sum ≤ 8) (hM : Mt z dom d' [a1] h (mx_Rv (fun h' => h' = h1))) (K : At y dom d (pc + 3) L rest h1 Q) : At y dom d pc L (a1 :: rest) h Q := ax_cSv1 hs hd hdd hcat hM (fun h' hq => by subst hq; exact K)
theorem ax_cSi2 {idx d' : Nat} {a1 a2 : Value} {P : Int32 → mh_H → Prop} (hs : mx_S y.1.cls z idx 2) (hd : decode y.2.1 pc = .ok (.invokestatic idx, 3)) (hdd : d' + 1 ≤ d) (hcat : (rest.map fun v => v.category).sum ≤ 8) (hM : Mt z dom d' [a1, a2] h (mx_Ri P)) (K : ∀ v h', P v h' → At y dom d (pc + 3) L (.int v :: rest) h' Q) : At y dom d pc L (a2 :: a1 :: rest) h Q := ax_callS (As := [a1, a2]) (rest := rest) hs hd hdd rfl hcat hM (fun r h' hq => by obtain ⟨v, rfl, hq⟩ := hq; exact K v h' hq)
theorem ax_eSi2 {idx d' : Nat} {a1 a2 : Value} {v : Int32} {h1 : mh_H} (hs : mx_S y.1.cls z idx 2) (hd : decode y.2.1 pc = .ok (.invokestatic idx, 3)) (hdd : d' + 1 ≤ d) (hcat : (rest.map fun v => v.category).sum ≤ 8) (hM : Mt z dom d' [a1, a2] h (mx_Ri (fun v' h' => v' = v ∧ h' = h1))) (K : At y dom d (pc + 3) L (.int v :: rest) h1 Q) : At y dom d pc L (a2 :: a1 :: rest) h Q := ax_cSi2 hs hd hdd hcat hM (fun v' h' hq => by obtain ⟨rfl, rfl⟩ := hq; exact K)
theorem ax_cSl2 {idx d' : Nat} {a1 a2 : Value} {P : Int64 → mh_H → Prop} (hs : mx_S y.1.cls z idx 2) (hd : decode y.2.1 pc = .ok (.invokestatic idx, 3)) (hdd : d' + 1 ≤ d) (hcat : (rest.map fun v => v.category).sum ≤ 8) (hM : Mt z dom d' [a1, a2] h (mx_Rl P)) (K : ∀ v h', P v h' → At y dom d (pc + 3) L (.long v :: rest) h' Q) : At y dom d pc L (a2 :: a1 :: rest) h Q := ax_callS (As := [a1, a2]) (rest := rest) hs hd hdd rfl hcat hM (fun r h' hq => by obtain ⟨v, rfl, hq⟩ := hq; exact K v h' hq)
theorem ax_eSl2 {idx d' : Nat} {a1 a2 : Value} {v : Int64} {h1 : mh_H} (hs : mx_S y.1.cls z idx 2) (hd : decode y.2.1 pc = .ok (.invokestatic idx, 3)) (hdd : d' + 1 ≤ d) (hcat : (rest.map fun v => v.category).sum ≤ 8) (hM : Mt z dom d' [a1, a2] h (mx_Rl (fun v' h' => v' = v ∧ h' = h1))) (K : At y dom d (pc + 3) L (.long v :: rest) h1 Q) : At y dom d pc L (a2 :: a1 :: rest) h Q := ax_cSl2 hs hd hdd hcat hM (fun v' h' hq => by obtain ⟨rfl, rfl⟩ := hq; exact K)
theorem ax_cSv2 {idx d' : Nat} {a1 a2 : Value} {P : mh_H → Prop} (hs : mx_S y.1.cls z idx 2) (hd : decode y.2.1 pc = .ok (.invokestatic idx, 3)) (hdd : d' + 1 ≤ d) (hcat : (rest.map fun v => v.category).sum ≤ 8) (hM : Mt z dom d' [a1, a2] h (mx_Rv P)) (K : ∀ h', P h' → At y dom d (pc + 3) L rest h' Q) : At y dom d pc L (a2 :: a1 :: rest) h Q := ax_callS (As := [a1, a2]) (rest := rest) hs hd hdd rfl hcat hM (fun r h' hq => by obtain ⟨rfl, hq⟩ := hq; exact K h' hq)
theorem ax_eSv2 {idx d' : Nat} {a1 a2 : Value} {h1 : mh_H} (hs : mx_S y.1.cls z idx 2) (hd : decode y.2.1 pc = .ok (.invokestatic idx, 3)) (hdd : d' + 1 ≤ d) (hcat : (rest.map fun v => v.category).sum ≤ 8) (hM : Mt z dom d' [a1, a2] h (mx_Rv (fun h' => h' = h1))) (K : At y dom d (pc + 3) L rest h1 Q) : At y dom d pc L (a2 :: a1 :: rest) h Q := ax_cSv2 hs hd hdd hcat hM (fun h' hq => by subst hq; exact K)
theorem ax_cSi3 {idx d' : Nat} {a1 a2 a3 : Value} {P : Int32 → mh_H → Prop} (hs : mx_S y.1.cls z idx 3) (hd : decode y.2.1 pc = .ok (.invokestatic idx, 3)) (hdd : d' + 1 ≤ d) (hcat : (rest.map fun v => v.category).sum ≤ 8) (hM : Mt z dom d' [a1, a2, a3] h (mx_Ri P)) (K : ∀ v h', P v h' → At y dom d (pc + 3) L (.int v :: rest) h' Q) : At y dom d pc L (a3 :: a2 :: a1 :: rest) h Q := ax_callS (As := [a1, a2, a3]) (rest := rest) hs hd hdd rfl hcat hM (fun r h' hq => by obtain ⟨v, rfl, hq⟩ := hq; exact K v h' hq)
theorem ax_eSi3 {idx d' : Nat} {a1 a2 a3 : Value} {v : Int32} {h1 : mh_H} (hs : mx_S y.1.cls z idx 3) (hd : decode y.2.1 pc = .ok (.invokestatic idx, 3)) (hdd : d' + 1 ≤ d) (hcat : (rest.map fun v => v.category).sum ≤ 8) (hM : Mt z dom d' [a1, a2, a3] h (mx_Ri (fun v' h' => v' = v ∧ h' = h1))) (K : At y dom d (pc + 3) L (.int v :: rest) h1 Q) : At y dom d pc L (a3 :: a2 :: a1 :: rest) h Q := ax_cSi3 hs hd hdd hcat hM (fun v' h' hq => by obtain ⟨rfl, rfl⟩ := hq; exact K)
theorem ax_cSl3 {idx d' : Nat} {a1 a2 a3 : Value} {P : Int64 → mh_H → Prop} (hs : mx_S y.1.cls z idx 3) (hd : decode y.2.1 pc = .ok (.invokestatic idx, 3)) (hdd : d' + 1 ≤ d) (hcat : (rest.map fun v => v.category).sum ≤ 8) (hM : Mt z dom d' [a1, a2, a3] h (mx_Rl P)) (K : ∀ v h', P v h' → At y dom d (pc + 3) L (.long v :: rest) h' Q) : At y dom d pc L (a3 :: a2 :: a1 :: rest) h Q := ax_callS (As := [a1, a2, a3]) (rest := rest) hs hd hdd rfl hcat hM (fun r h' hq => by obtain ⟨v, rfl, hq⟩ := hq; exact K v h' hq)
theorem ax_eSl3 {idx d' : Nat} {a1 a2 a3 : Value} {v : Int64} {h1 : mh_H} (hs : mx_S y.1.cls z idx 3) (hd : decode y.2.1 pc = .ok (.invokestatic idx, 3)) (hdd : d' + 1 ≤ d) (hcat : (rest.map fun v => v.category).sum ≤ 8) (hM : Mt z dom d' [a1, a2, a3] h (mx_Rl (fun v' h' => v' = v ∧ h' = h1))) (K : At y dom d (pc + 3) L (.long v :: rest) h1 Q) : At y dom d pc L (a3 :: a2 :: a1 :: rest) h Q := ax_cSl3 hs hd hdd hcat hM (fun v' h' hq => by obtain ⟨rfl, rfl⟩ := hq; exact K)
theorem ax_cSv3 {idx d' : Nat} {a1 a2 a3 : Value} {P : mh_H → Prop} (hs : mx_S y.1.cls z idx 3) (hd : decode y.2.1 pc = .ok (.invokestatic idx, 3)) (hdd : d' + 1 ≤ d) (hcat : (rest.map fun v => v.category).sum ≤ 8) (hM : Mt z dom d' [a1, a2, a3] h (mx_Rv P)) (K : ∀ h', P h' → At y dom d (pc + 3) L rest h' Q) : At y dom d pc L (a3 :: a2 :: a1 :: rest) h Q := ax_callS (As := [a1, a2, a3]) (rest := rest) hs hd hdd rfl hcat hM (fun r h' hq => by obtain ⟨rfl, hq⟩ := hq; exact K h' hq)
theorem ax_eSv3 {idx d' : Nat} {a1 a2 a3 : Value} {h1 : mh_H} (hs : mx_S y.1.cls z idx 3) (hd : decode y.2.1 pc = .ok (.invokestatic idx, 3)) (hdd : d' + 1 ≤ d) (hcat : (rest.map fun v => v.category).sum ≤ 8) (hM : Mt z dom d' [a1, a2, a3] h (mx_Rv (fun h' => h' = h1))) (K : At y dom d (pc + 3) L rest h1 Q) : At y dom d pc L (a3 :: a2 :: a1 :: rest) h Q := ax_cSv3 hs hd hdd hcat hM (fun h' hq => by subst hq; exact K)
theorem ax_cSi4 {idx d' : Nat} {a1 a2 a3 a4 : Value} {P : Int32 → mh_H → Prop} (hs : mx_S y.1.cls z idx 4) (hd : decode y.2.1 pc = .ok (.invokestatic idx, 3)) (hdd : d' + 1 ≤ d) (hcat : (rest.map fun v => v.category).sum ≤ 8) (hM : Mt z dom d' [a1, a2, a3, a4] h (mx_Ri P)) (K : ∀ v h', P v h' → At y dom d (pc + 3) L (.int v :: rest) h' Q) : At y dom d pc L (a4 :: a3 :: a2 :: a1 :: rest) h Q := ax_callS (As := [a1, a2, a3, a4]) (rest := rest) hs hd hdd rfl hcat hM (fun r h' hq => by obtain ⟨v, rfl, hq⟩ := hq; exact K v h' hq)
theorem ax_eSi4 {idx d' : Nat} {a1 a2 a3 a4 : Value} {v : Int32} {h1 : mh_H} (hs : mx_S y.1.cls z idx 4) (hd : decode y.2.1 pc = .ok (.invokestatic idx, 3)) (hdd : d' + 1 ≤ d) (hcat : (rest.map fun v => v.category).sum ≤ 8) (hM : Mt z dom d' [a1, a2, a3, a4] h (mx_Ri (fun v' h' => v' = v ∧ h' = h1))) (K : At y dom d (pc + 3) L (.int v :: rest) h1 Q) : At y dom d pc L (a4 :: a3 :: a2 :: a1 :: rest) h Q := ax_cSi4 hs hd hdd hcat hM (fun v' h' hq => by obtain ⟨rfl, rfl⟩ := hq; exact K)
theorem ax_cSl4 {idx d' : Nat} {a1 a2 a3 a4 : Value} {P : Int64 → mh_H → Prop} (hs : mx_S y.1.cls z idx 4) (hd : decode y.2.1 pc = .ok (.invokestatic idx, 3)) (hdd : d' + 1 ≤ d) (hcat : (rest.map fun v => v.category).sum ≤ 8) (hM : Mt z dom d' [a1, a2, a3, a4] h (mx_Rl P)) (K : ∀ v h', P v h' → At y dom d (pc + 3) L (.long v :: rest) h' Q) : At y dom d pc L (a4 :: a3 :: a2 :: a1 :: rest) h Q := ax_callS (As := [a1, a2, a3, a4]) (rest := rest) hs hd hdd rfl hcat hM (fun r h' hq => by obtain ⟨v, rfl, hq⟩ := hq; exact K v h' hq)
theorem ax_eSl4 {idx d' : Nat} {a1 a2 a3 a4 : Value} {v : Int64} {h1 : mh_H} (hs : mx_S y.1.cls z idx 4) (hd : decode y.2.1 pc = .ok (.invokestatic idx, 3)) (hdd : d' + 1 ≤ d) (hcat : (rest.map fun v => v.category).sum ≤ 8) (hM : Mt z dom d' [a1, a2, a3, a4] h (mx_Rl (fun v' h' => v' = v ∧ h' = h1))) (K : At y dom d (pc + 3) L (.long v :: rest) h1 Q) : At y dom d pc L (a4 :: a3 :: a2 :: a1 :: rest) h Q := ax_cSl4 hs hd hdd hcat hM (fun v' h' hq => by obtain ⟨rfl, rfl⟩ := hq; exact K)
theorem ax_cSv4 {idx d' : Nat} {a1 a2 a3 a4 : Value} {P : mh_H → Prop} (hs : mx_S y.1.cls z idx 4) (hd : decode y.2.1 pc = .ok (.invokestatic idx, 3)) (hdd : d' + 1 ≤ d) (hcat : (rest.map fun v => v.category).sum ≤ 8) (hM : Mt z dom d' [a1, a2, a3, a4] h (mx_Rv P)) (K : ∀ h', P h' → At y dom d (pc + 3) L rest h' Q) : At y dom d pc L (a4 :: a3 :: a2 :: a1 :: rest) h Q := ax_callS (As := [a1, a2, a3, a4]) (rest := rest) hs hd hdd rfl hcat hM (fun r h' hq => by obtain ⟨rfl, hq⟩ := hq; exact K h' hq)
theorem ax_eSv4 {idx d' : Nat} {a1 a2 a3 a4 : Value} {h1 : mh_H} (hs : mx_S y.1.cls z idx 4) (hd : decode y.2.1 pc = .ok (.invokestatic idx, 3)) (hdd : d' + 1 ≤ d) (hcat : (rest.map fun v => v.category).sum ≤ 8) (hM : Mt z dom d' [a1, a2, a3, a4] h (mx_Rv (fun h' => h' = h1))) (K : At y dom d (pc + 3) L rest h1 Q) : At y dom d pc L (a4 :: a3 :: a2 :: a1 :: rest) h Q := ax_cSv4 hs hd hdd hcat hM (fun h' hq => by subst hq; exact K)
theorem ax_cSi5 {idx d' : Nat} {a1 a2 a3 a4 a5 : Value} {P : Int32 → mh_H → Prop} (hs : mx_S y.1.cls z idx 5) (hd : decode y.2.1 pc = .ok (.invokestatic idx, 3)) (hdd : d' + 1 ≤ d) (hcat : (rest.map fun v => v.category).sum ≤ 8) (hM : Mt z dom d' [a1, a2, a3, a4, a5] h (mx_Ri P)) (K : ∀ v h', P v h' → At y dom d (pc + 3) L (.int v :: rest) h' Q) : At y dom d pc L (a5 :: a4 :: a3 :: a2 :: a1 :: rest) h Q := ax_callS (As := [a1, a2, a3, a4, a5]) (rest := rest) hs hd hdd rfl hcat hM (fun r h' hq => by obtain ⟨v, rfl, hq⟩ := hq; exact K v h' hq)
theorem ax_eSi5 {idx d' : Nat} {a1 a2 a3 a4 a5 : Value} {v : Int32} {h1 : mh_H} (hs : mx_S y.1.cls z idx 5) (hd : decode y.2.1 pc = .ok (.invokestatic idx, 3)) (hdd : d' + 1 ≤ d) (hcat : (rest.map fun v => v.category).sum ≤ 8) (hM : Mt z dom d' [a1, a2, a3, a4, a5] h (mx_Ri (fun v' h' => v' = v ∧ h' = h1))) (K : At y dom d (pc + 3) L (.int v :: rest) h1 Q) : At y dom d pc L (a5 :: a4 :: a3 :: a2 :: a1 :: rest) h Q := ax_cSi5 hs hd hdd hcat hM (fun v' h' hq => by obtain ⟨rfl, rfl⟩ := hq; exact K)
theorem ax_cSl5 {idx d' : Nat} {a1 a2 a3 a4 a5 : Value} {P : Int64 → mh_H → Prop} (hs : mx_S y.1.cls z idx 5) (hd : decode y.2.1 pc = .ok (.invokestatic idx, 3)) (hdd : d' + 1 ≤ d) (hcat : (rest.map fun v => v.category).sum ≤ 8) (hM : Mt z dom d' [a1, a2, a3, a4, a5] h (mx_Rl P)) (K : ∀ v h', P v h' → At y dom d (pc + 3) L (.long v :: rest) h' Q) : At y dom d pc L (a5 :: a4 :: a3 :: a2 :: a1 :: rest) h Q := ax_callS (As := [a1, a2, a3, a4, a5]) (rest := rest) hs hd hdd rfl hcat hM (fun r h' hq => by obtain ⟨v, rfl, hq⟩ := hq; exact K v h' hq)
theorem ax_eSl5 {idx d' : Nat} {a1 a2 a3 a4 a5 : Value} {v : Int64} {h1 : mh_H} (hs : mx_S y.1.cls z idx 5) (hd : decode y.2.1 pc = .ok (.invokestatic idx, 3)) (hdd : d' + 1 ≤ d) (hcat : (rest.map fun v => v.category).sum ≤ 8) (hM : Mt z dom d' [a1, a2, a3, a4, a5] h (mx_Rl (fun v' h' => v' = v ∧ h' = h1))) (K : At y dom d (pc + 3) L (.long v :: rest) h1 Q) : At y dom d pc L (a5 :: a4 :: a3 :: a2 :: a1 :: rest) h Q := ax_cSl5 hs hd hdd hcat hM (fun v' h' hq => by obtain ⟨rfl, rfl⟩ := hq; exact K)
theorem ax_cSv5 {idx d' : Nat} {a1 a2 a3 a4 a5 : Value} {P : mh_H → Prop} (hs : mx_S y.1.cls z idx 5) (hd : decode y.2.1 pc = .ok (.invokestatic idx, 3)) (hdd : d' + 1 ≤ d) (hcat : (rest.map fun v => v.category).sum ≤ 8) (hM : Mt z dom d' [a1, a2, a3, a4, a5] h (mx_Rv P)) (K : ∀ h', P h' → At y dom d (pc + 3) L rest h' Q) : At y dom d pc L (a5 :: a4 :: a3 :: a2 :: a1 :: rest) h Q := ax_callS (As := [a1, a2, a3, a4, a5]) (rest := rest) hs hd hdd rfl hcat hM (fun r h' hq => by obtain ⟨rfl, hq⟩ := hq; exact K h' hq)
theorem ax_eSv5 {idx d' : Nat} {a1 a2 a3 a4 a5 : Value} {h1 : mh_H} (hs : mx_S y.1.cls z idx 5) (hd : decode y.2.1 pc = .ok (.invokestatic idx, 3)) (hdd : d' + 1 ≤ d) (hcat : (rest.map fun v => v.category).sum ≤ 8) (hM : Mt z dom d' [a1, a2, a3, a4, a5] h (mx_Rv (fun h' => h' = h1))) (K : At y dom d (pc + 3) L rest h1 Q) : At y dom d pc L (a5 :: a4 :: a3 :: a2 :: a1 :: rest) h Q := ax_cSv5 hs hd hdd hcat hM (fun h' hq => by subst hq; exact K)
theorem ax_cSi6 {idx d' : Nat} {a1 a2 a3 a4 a5 a6 : Value} {P : Int32 → mh_H → Prop} (hs : mx_S y.1.cls z idx 6) (hd : decode y.2.1 pc = .ok (.invokestatic idx, 3)) (hdd : d' + 1 ≤ d) (hcat : (rest.map fun v => v.category).sum ≤ 8) (hM : Mt z dom d' [a1, a2, a3, a4, a5, a6] h (mx_Ri P)) (K : ∀ v h', P v h' → At y dom d (pc + 3) L (.int v :: rest) h' Q) : At y dom d pc L (a6 :: a5 :: a4 :: a3 :: a2 :: a1 :: rest) h Q := ax_callS (As := [a1, a2, a3, a4, a5, a6]) (rest := rest) hs hd hdd rfl hcat hM (fun r h' hq => by obtain ⟨v, rfl, hq⟩ := hq; exact K v h' hq)
theorem ax_eSi6 {idx d' : Nat} {a1 a2 a3 a4 a5 a6 : Value} {v : Int32} {h1 : mh_H} (hs : mx_S y.1.cls z idx 6) (hd : decode y.2.1 pc = .ok (.invokestatic idx, 3)) (hdd : d' + 1 ≤ d) (hcat : (rest.map fun v => v.category).sum ≤ 8) (hM : Mt z dom d' [a1, a2, a3, a4, a5, a6] h (mx_Ri (fun v' h' => v' = v ∧ h' = h1))) (K : At y dom d (pc + 3) L (.int v :: rest) h1 Q) : At y dom d pc L (a6 :: a5 :: a4 :: a3 :: a2 :: a1 :: rest) h Q := ax_cSi6 hs hd hdd hcat hM (fun v' h' hq => by obtain ⟨rfl, rfl⟩ := hq; exact K)
theorem ax_cSl6 {idx d' : Nat} {a1 a2 a3 a4 a5 a6 : Value} {P : Int64 → mh_H → Prop} (hs : mx_S y.1.cls z idx 6) (hd : decode y.2.1 pc = .ok (.invokestatic idx, 3)) (hdd : d' + 1 ≤ d) (hcat : (rest.map fun v => v.category).sum ≤ 8) (hM : Mt z dom d' [a1, a2, a3, a4, a5, a6] h (mx_Rl P)) (K : ∀ v h', P v h' → At y dom d (pc + 3) L (.long v :: rest) h' Q) : At y dom d pc L (a6 :: a5 :: a4 :: a3 :: a2 :: a1 :: rest) h Q := ax_callS (As := [a1, a2, a3, a4, a5, a6]) (rest := rest) hs hd hdd rfl hcat hM (fun r h' hq => by obtain ⟨v, rfl, hq⟩ := hq; exact K v h' hq)
theorem ax_eSl6 {idx d' : Nat} {a1 a2 a3 a4 a5 a6 : Value} {v : Int64} {h1 : mh_H} (hs : mx_S y.1.cls z idx 6) (hd : decode y.2.1 pc = .ok (.invokestatic idx, 3)) (hdd : d' + 1 ≤ d) (hcat : (rest.map fun v => v.category).sum ≤ 8) (hM : Mt z dom d' [a1, a2, a3, a4, a5, a6] h (mx_Rl (fun v' h' => v' = v ∧ h' = h1))) (K : At y dom d (pc + 3) L (.long v :: rest) h1 Q) : At y dom d pc L (a6 :: a5 :: a4 :: a3 :: a2 :: a1 :: rest) h Q := ax_cSl6 hs hd hdd hcat hM (fun v' h' hq => by obtain ⟨rfl, rfl⟩ := hq; exact K)
theorem ax_cSv6 {idx d' : Nat} {a1 a2 a3 a4 a5 a6 : Value} {P : mh_H → Prop} (hs : mx_S y.1.cls z idx 6) (hd : decode y.2.1 pc = .ok (.invokestatic idx, 3)) (hdd : d' + 1 ≤ d) (hcat : (rest.map fun v => v.category).sum ≤ 8) (hM : Mt z dom d' [a1, a2, a3, a4, a5, a6] h (mx_Rv P)) (K : ∀ h', P h' → At y dom d (pc + 3) L rest h' Q) : At y dom d pc L (a6 :: a5 :: a4 :: a3 :: a2 :: a1 :: rest) h Q := ax_callS (As := [a1, a2, a3, a4, a5, a6]) (rest := rest) hs hd hdd rfl hcat hM (fun r h' hq => by obtain ⟨rfl, hq⟩ := hq; exact K h' hq)
theorem ax_eSv6 {idx d' : Nat} {a1 a2 a3 a4 a5 a6 : Value} {h1 : mh_H} (hs : mx_S y.1.cls z idx 6) (hd : decode y.2.1 pc = .ok (.invokestatic idx, 3)) (hdd : d' + 1 ≤ d) (hcat : (rest.map fun v => v.category).sum ≤ 8) (hM : Mt z dom d' [a1, a2, a3, a4, a5, a6] h (mx_Rv (fun h' => h' = h1))) (K : At y dom d (pc + 3) L rest h1 Q) : At y dom d pc L (a6 :: a5 :: a4 :: a3 :: a2 :: a1 :: rest) h Q := ax_cSv6 hs hd hdd hcat hM (fun h' hq => by subst hq; exact K)
theorem ax_cNi1 {idx d' : Nat} {a1 : Value} {P : Int32 → mh_H → Prop} (hs : mx_N y.1.cls z idx 1) (hd : decode y.2.1 pc = .ok (.invokestatic idx, 3)) (hdd : d' + 1 ≤ d) (hcat : (rest.map fun v => v.category).sum ≤ 8) (hM : Mt z dom d' [a1] h (mx_Ri P)) (K : ∀ v h', P v h' → At y dom d (pc + 3) L (.int v :: rest) h' Q) : At y dom d pc L (a1 :: rest) h Q := ax_callN (As := [a1]) (rest := rest) hs hd hdd rfl hcat hM (fun r h' hq => by obtain ⟨v, rfl, hq⟩ := hq; exact K v h' hq)
theorem ax_eNi1 {idx d' : Nat} {a1 : Value} {v : Int32} {h1 : mh_H} (hs : mx_N y.1.cls z idx 1) (hd : decode y.2.1 pc = .ok (.invokestatic idx, 3)) (hdd : d' + 1 ≤ d) (hcat : (rest.map fun v => v.category).sum ≤ 8) (hM : Mt z dom d' [a1] h (mx_Ri (fun v' h' => v' = v ∧ h' = h1))) (K : At y dom d (pc + 3) L (.int v :: rest) h1 Q) : At y dom d pc L (a1 :: rest) h Q := ax_cNi1 hs hd hdd hcat hM (fun v' h' hq => by obtain ⟨rfl, rfl⟩ := hq; exact K)
theorem ax_cNl1 {idx d' : Nat} {a1 : Value} {P : Int64 → mh_H → Prop} (hs : mx_N y.1.cls z idx 1) (hd : decode y.2.1 pc = .ok (.invokestatic idx, 3)) (hdd : d' + 1 ≤ d) (hcat : (rest.map fun v => v.category).sum ≤ 8) (hM : Mt z dom d' [a1] h (mx_Rl P)) (K : ∀ v h', P v h' → At y dom d (pc + 3) L (.long v :: rest) h' Q) : At y dom d pc L (a1 :: rest) h Q := ax_callN (As := [a1]) (rest := rest) hs hd hdd rfl hcat hM (fun r h' hq => by obtain ⟨v, rfl, hq⟩ := hq; exact K v h' hq)
theorem ax_eNl1 {idx d' : Nat} {a1 : Value} {v : Int64} {h1 : mh_H} (hs : mx_N y.1.cls z idx 1) (hd : decode y.2.1 pc = .ok (.invokestatic idx, 3)) (hdd : d' + 1 ≤ d) (hcat : (rest.map fun v => v.category).sum ≤ 8) (hM : Mt z dom d' [a1] h (mx_Rl (fun v' h' => v' = v ∧ h' = h1))) (K : At y dom d (pc + 3) L (.long v :: rest) h1 Q) : At y dom d pc L (a1 :: rest) h Q := ax_cNl1 hs hd hdd hcat hM (fun v' h' hq => by obtain ⟨rfl, rfl⟩ := hq; exact K)
theorem ax_cNv1 {idx d' : Nat} {a1 : Value} {P : mh_H → Prop} (hs : mx_N y.1.cls z idx 1) (hd : decode y.2.1 pc = .ok (.invokestatic idx, 3)) (hdd : d' + 1 ≤ d) (hcat : (rest.map fun v => v.category).sum ≤ 8) (hM : Mt z dom d' [a1] h (mx_Rv P)) (K : ∀ h', P h' → At y dom d (pc + 3) L rest h' Q) : At y dom d pc L (a1 :: rest) h Q := ax_callN (As := [a1]) (rest := rest) hs hd hdd rfl hcat hM (fun r h' hq => by obtain ⟨rfl, hq⟩ := hq; exact K h' hq)
theorem ax_eNv1 {idx d' : Nat} {a1 : Value} {h1 : mh_H} (hs : mx_N y.1.cls z idx 1) (hd : decode y.2.1 pc = .ok (.invokestatic idx, 3)) (hdd : d' + 1 ≤ d) (hcat : (rest.map fun v => v.category).sum ≤ 8) (hM : Mt z dom d' [a1] h (mx_Rv (fun h' => h' = h1))) (K : At y dom d (pc + 3) L rest h1 Q) : At y dom d pc L (a1 :: rest) h Q := ax_cNv1 hs hd hdd hcat hM (fun h' hq => by subst hq; exact K)
theorem ax_cNi2 {idx d' : Nat} {a1 a2 : Value} {P : Int32 → mh_H → Prop} (hs : mx_N y.1.cls z idx 2) (hd : decode y.2.1 pc = .ok (.invokestatic idx, 3)) (hdd : d' + 1 ≤ d) (hcat : (rest.map fun v => v.category).sum ≤ 8) (hM : Mt z dom d' [a1, a2] h (mx_Ri P)) (K : ∀ v h', P v h' → At y dom d (pc + 3) L (.int v :: rest) h' Q) : At y dom d pc L (a2 :: a1 :: rest) h Q := ax_callN (As := [a1, a2]) (rest := rest) hs hd hdd rfl hcat hM (fun r h' hq => by obtain ⟨v, rfl, hq⟩ := hq; exact K v h' hq)
theorem ax_eNi2 {idx d' : Nat} {a1 a2 : Value} {v : Int32} {h1 : mh_H} (hs : mx_N y.1.cls z idx 2) (hd : decode y.2.1 pc = .ok (.invokestatic idx, 3)) (hdd : d' + 1 ≤ d) (hcat : (rest.map fun v => v.category).sum ≤ 8) (hM : Mt z dom d' [a1, a2] h (mx_Ri (fun v' h' => v' = v ∧ h' = h1))) (K : At y dom d (pc + 3) L (.int v :: rest) h1 Q) : At y dom d pc L (a2 :: a1 :: rest) h Q := ax_cNi2 hs hd hdd hcat hM (fun v' h' hq => by obtain ⟨rfl, rfl⟩ := hq; exact K)
theorem ax_cNl2 {idx d' : Nat} {a1 a2 : Value} {P : Int64 → mh_H → Prop} (hs : mx_N y.1.cls z idx 2) (hd : decode y.2.1 pc = .ok (.invokestatic idx, 3)) (hdd : d' + 1 ≤ d) (hcat : (rest.map fun v => v.category).sum ≤ 8) (hM : Mt z dom d' [a1, a2] h (mx_Rl P)) (K : ∀ v h', P v h' → At y dom d (pc + 3) L (.long v :: rest) h' Q) : At y dom d pc L (a2 :: a1 :: rest) h Q := ax_callN (As := [a1, a2]) (rest := rest) hs hd hdd rfl hcat hM (fun r h' hq => by obtain ⟨v, rfl, hq⟩ := hq; exact K v h' hq)
theorem ax_eNl2 {idx d' : Nat} {a1 a2 : Value} {v : Int64} {h1 : mh_H} (hs : mx_N y.1.cls z idx 2) (hd : decode y.2.1 pc = .ok (.invokestatic idx, 3)) (hdd : d' + 1 ≤ d) (hcat : (rest.map fun v => v.category).sum ≤ 8) (hM : Mt z dom d' [a1, a2] h (mx_Rl (fun v' h' => v' = v ∧ h' = h1))) (K : At y dom d (pc + 3) L (.long v :: rest) h1 Q) : At y dom d pc L (a2 :: a1 :: rest) h Q := ax_cNl2 hs hd hdd hcat hM (fun v' h' hq => by obtain ⟨rfl, rfl⟩ := hq; exact K)
theorem ax_cNv2 {idx d' : Nat} {a1 a2 : Value} {P : mh_H → Prop} (hs : mx_N y.1.cls z idx 2) (hd : decode y.2.1 pc = .ok (.invokestatic idx, 3)) (hdd : d' + 1 ≤ d) (hcat : (rest.map fun v => v.category).sum ≤ 8) (hM : Mt z dom d' [a1, a2] h (mx_Rv P)) (K : ∀ h', P h' → At y dom d (pc + 3) L rest h' Q) : At y dom d pc L (a2 :: a1 :: rest) h Q := ax_callN (As := [a1, a2]) (rest := rest) hs hd hdd rfl hcat hM (fun r h' hq => by obtain ⟨rfl, hq⟩ := hq; exact K h' hq)
theorem ax_eNv2 {idx d' : Nat} {a1 a2 : Value} {h1 : mh_H} (hs : mx_N y.1.cls z idx 2) (hd : decode y.2.1 pc = .ok (.invokestatic idx, 3)) (hdd : d' + 1 ≤ d) (hcat : (rest.map fun v => v.category).sum ≤ 8) (hM : Mt z dom d' [a1, a2] h (mx_Rv (fun h' => h' = h1))) (K : At y dom d (pc + 3) L rest h1 Q) : At y dom d pc L (a2 :: a1 :: rest) h Q := ax_cNv2 hs hd hdd hcat hM (fun h' hq => by subst hq; exact K)
end AY
end
