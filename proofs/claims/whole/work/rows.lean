section
-- ===== PART A: goes FIRST, ahead of the names: the tables' words, and 'selects' of the private methods out of them =====
/-- a private method of a class that the tables say can be made, by its rows of tables_1 -/
def lw_okq (q : MethodName × Nat) : Prop := (q.1.cls ≠ "java/lang/invoke/MethodHandle" ∧ q.1.cls ≠ "java/lang/invoke/VarHandle") ∧ Cond.instantiable q.1.cls q.2 ∈ tables_1 ∧ Cond.privateMethod q.1 ∈ tables_1 ∧ Cond.instanceMethod q.1 ∈ tables_1
theorem lw_p0 : lw_okq (⟨"VectorWays", "comes", "(II)I"⟩, 14) := ⟨⟨by decide +kernel, by decide +kernel⟩, List.mem_of_getElem? (i := 21) (by decide +kernel), List.mem_of_getElem? (i := 329) (by decide +kernel), List.mem_of_getElem? (i := 330) (by decide +kernel)⟩
theorem lw_p1 : lw_okq (⟨"VectorWays$Changes", "remember", "(LVectorWays$Parts;)V"⟩, 3) := ⟨⟨by decide +kernel, by decide +kernel⟩, List.mem_of_getElem? (i := 72) (by decide +kernel), List.mem_of_getElem? (i := 333) (by decide +kernel), List.mem_of_getElem? (i := 334) (by decide +kernel)⟩
theorem lw_p2 : lw_okq (⟨"VectorWays$Changes", "slotAt", "(I)LVectorWays$Parts;"⟩, 3) := ⟨⟨by decide +kernel, by decide +kernel⟩, List.mem_of_getElem? (i := 72) (by decide +kernel), List.mem_of_getElem? (i := 337) (by decide +kernel), List.mem_of_getElem? (i := 338) (by decide +kernel)⟩
theorem lw_p3 : lw_okq (⟨"VectorWays$Parts", "become", "(LVectorWays$Parts;)V"⟩, 5) := ⟨⟨by decide +kernel, by decide +kernel⟩, List.mem_of_getElem? (i := 29) (by decide +kernel), List.mem_of_getElem? (i := 341) (by decide +kernel), List.mem_of_getElem? (i := 342) (by decide +kernel)⟩
theorem lw_p4 : lw_okq (⟨"VectorWays$Parts", "add", "(II)V"⟩, 5) := ⟨⟨by decide +kernel, by decide +kernel⟩, List.mem_of_getElem? (i := 29) (by decide +kernel), List.mem_of_getElem? (i := 348) (by decide +kernel), List.mem_of_getElem? (i := 349) (by decide +kernel)⟩
theorem lw_p5 : lw_okq (⟨"VectorWays", "partsChanged", "()V"⟩, 14) := ⟨⟨by decide +kernel, by decide +kernel⟩, List.mem_of_getElem? (i := 21) (by decide +kernel), List.mem_of_getElem? (i := 353) (by decide +kernel), List.mem_of_getElem? (i := 354) (by decide +kernel)⟩
theorem lw_p6 : lw_okq (⟨"VectorWays$Fan", "spread", "(LVectorWays$Parts;)V"⟩, 6) := ⟨⟨by decide +kernel, by decide +kernel⟩, List.mem_of_getElem? (i := 145) (by decide +kernel), List.mem_of_getElem? (i := 357) (by decide +kernel), List.mem_of_getElem? (i := 358) (by decide +kernel)⟩
theorem lw_p7 : lw_okq (⟨"VectorWays$Fan", "addRay", "(II)V"⟩, 6) := ⟨⟨by decide +kernel, by decide +kernel⟩, List.mem_of_getElem? (i := 145) (by decide +kernel), List.mem_of_getElem? (i := 361) (by decide +kernel), List.mem_of_getElem? (i := 362) (by decide +kernel)⟩
theorem lw_p8 : lw_okq (⟨"VectorWays$Fan", "hasRay", "(I)Z"⟩, 6) := ⟨⟨by decide +kernel, by decide +kernel⟩, List.mem_of_getElem? (i := 145) (by decide +kernel), List.mem_of_getElem? (i := 365) (by decide +kernel), List.mem_of_getElem? (i := 366) (by decide +kernel)⟩
theorem lw_p9 : lw_okq (⟨"VectorWays$Fan", "rayTowards", "(II)I"⟩, 6) := ⟨⟨by decide +kernel, by decide +kernel⟩, List.mem_of_getElem? (i := 145) (by decide +kernel), List.mem_of_getElem? (i := 378) (by decide +kernel), List.mem_of_getElem? (i := 379) (by decide +kernel)⟩
theorem lw_p10 : lw_okq (⟨"VectorWays$Fan", "findPeriod", "(LVectorWays$Parts;)V"⟩, 6) := ⟨⟨by decide +kernel, by decide +kernel⟩, List.mem_of_getElem? (i := 145) (by decide +kernel), List.mem_of_getElem? (i := 382) (by decide +kernel), List.mem_of_getElem? (i := 383) (by decide +kernel)⟩
theorem lw_p11 : lw_okq (⟨"VectorWays$FreeTable", "forget", "()V"⟩, 3) := ⟨⟨by decide +kernel, by decide +kernel⟩, List.mem_of_getElem? (i := 179) (by decide +kernel), List.mem_of_getElem? (i := 392) (by decide +kernel), List.mem_of_getElem? (i := 393) (by decide +kernel)⟩
theorem lw_p12 : lw_okq (⟨"VectorWays$WaysTable", "forget", "()V"⟩, 3) := ⟨⟨by decide +kernel, by decide +kernel⟩, List.mem_of_getElem? (i := 195) (by decide +kernel), List.mem_of_getElem? (i := 396) (by decide +kernel), List.mem_of_getElem? (i := 397) (by decide +kernel)⟩
theorem lw_p13 : lw_okq (⟨"VectorWays$Parts", "has", "(I)Z"⟩, 5) := ⟨⟨by decide +kernel, by decide +kernel⟩, List.mem_of_getElem? (i := 29) (by decide +kernel), List.mem_of_getElem? (i := 412) (by decide +kernel), List.mem_of_getElem? (i := 413) (by decide +kernel)⟩
theorem lw_p14 : lw_okq (⟨"VectorWays$Tape", "take", "(B)V"⟩, 4) := ⟨⟨by decide +kernel, by decide +kernel⟩, List.mem_of_getElem? (i := 92) (by decide +kernel), List.mem_of_getElem? (i := 430) (by decide +kernel), List.mem_of_getElem? (i := 431) (by decide +kernel)⟩
theorem lw_p15 : lw_okq (⟨"VectorWays$RuleReader", "faultIn", "(LVectorWays$Tape;)I"⟩, 7) := ⟨⟨by decide +kernel, by decide +kernel⟩, List.mem_of_getElem? (i := 114) (by decide +kernel), List.mem_of_getElem? (i := 438) (by decide +kernel), List.mem_of_getElem? (i := 439) (by decide +kernel)⟩
def lw_privs_1 : List (MethodName × Nat) := [(⟨"VectorWays", "comes", "(II)I"⟩, 14), (⟨"VectorWays$Changes", "remember", "(LVectorWays$Parts;)V"⟩, 3), (⟨"VectorWays$Changes", "slotAt", "(I)LVectorWays$Parts;"⟩, 3), (⟨"VectorWays$Parts", "become", "(LVectorWays$Parts;)V"⟩, 5), (⟨"VectorWays$Parts", "add", "(II)V"⟩, 5), (⟨"VectorWays", "partsChanged", "()V"⟩, 14), (⟨"VectorWays$Fan", "spread", "(LVectorWays$Parts;)V"⟩, 6), (⟨"VectorWays$Fan", "addRay", "(II)V"⟩, 6), (⟨"VectorWays$Fan", "hasRay", "(I)Z"⟩, 6), (⟨"VectorWays$Fan", "rayTowards", "(II)I"⟩, 6), (⟨"VectorWays$Fan", "findPeriod", "(LVectorWays$Parts;)V"⟩, 6), (⟨"VectorWays$FreeTable", "forget", "()V"⟩, 3), (⟨"VectorWays$WaysTable", "forget", "()V"⟩, 3), (⟨"VectorWays$Parts", "has", "(I)Z"⟩, 5), (⟨"VectorWays$Tape", "take", "(B)V"⟩, 4), (⟨"VectorWays$RuleReader", "faultIn", "(LVectorWays$Tape;)I"⟩, 7)]
theorem lw_r1 : ∀ q ∈ lw_privs_1, lw_okq q := List.forall_mem_cons.mpr ⟨lw_p0, List.forall_mem_cons.mpr ⟨lw_p1, List.forall_mem_cons.mpr ⟨lw_p2, List.forall_mem_cons.mpr ⟨lw_p3, List.forall_mem_cons.mpr ⟨lw_p4, List.forall_mem_cons.mpr ⟨lw_p5, List.forall_mem_cons.mpr ⟨lw_p6, List.forall_mem_cons.mpr ⟨lw_p7, List.forall_mem_cons.mpr ⟨lw_p8, List.forall_mem_cons.mpr ⟨lw_p9, List.forall_mem_cons.mpr ⟨lw_p10, List.forall_mem_cons.mpr ⟨lw_p11, List.forall_mem_cons.mpr ⟨lw_p12, List.forall_mem_cons.mpr ⟨lw_p13, List.forall_mem_cons.mpr ⟨lw_p14, List.forall_mem_cons.mpr ⟨lw_p15, fun _ h => absurd h List.not_mem_nil⟩⟩⟩⟩⟩⟩⟩⟩⟩⟩⟩⟩⟩⟩⟩⟩
theorem lw_p16 : lw_okq (⟨"VectorWays$Tape", "rewind", "()V"⟩, 4) := ⟨⟨by decide +kernel, by decide +kernel⟩, List.mem_of_getElem? (i := 92) (by decide +kernel), List.mem_of_getElem? (i := 442) (by decide +kernel), List.mem_of_getElem? (i := 443) (by decide +kernel)⟩
theorem lw_p17 : lw_okq (⟨"VectorWays$RuleReader", "begin", "(J)V"⟩, 7) := ⟨⟨by decide +kernel, by decide +kernel⟩, List.mem_of_getElem? (i := 114) (by decide +kernel), List.mem_of_getElem? (i := 446) (by decide +kernel), List.mem_of_getElem? (i := 447) (by decide +kernel)⟩
theorem lw_p18 : lw_okq (⟨"VectorWays$RuleReader", "isLevel", "()Z"⟩, 7) := ⟨⟨by decide +kernel, by decide +kernel⟩, List.mem_of_getElem? (i := 114) (by decide +kernel), List.mem_of_getElem? (i := 450) (by decide +kernel), List.mem_of_getElem? (i := 451) (by decide +kernel)⟩
theorem lw_p19 : lw_okq (⟨"VectorWays$Tape", "nextSort", "()I"⟩, 4) := ⟨⟨by decide +kernel, by decide +kernel⟩, List.mem_of_getElem? (i := 92) (by decide +kernel), List.mem_of_getElem? (i := 454) (by decide +kernel), List.mem_of_getElem? (i := 455) (by decide +kernel)⟩
theorem lw_p20 : lw_okq (⟨"VectorWays$Tape", "sortAt", "(I)I"⟩, 4) := ⟨⟨by decide +kernel, by decide +kernel⟩, List.mem_of_getElem? (i := 92) (by decide +kernel), List.mem_of_getElem? (i := 458) (by decide +kernel), List.mem_of_getElem? (i := 459) (by decide +kernel)⟩
theorem lw_p21 : lw_okq (⟨"VectorWays$Tape", "byteAt", "(I)I"⟩, 4) := ⟨⟨by decide +kernel, by decide +kernel⟩, List.mem_of_getElem? (i := 92) (by decide +kernel), List.mem_of_getElem? (i := 462) (by decide +kernel), List.mem_of_getElem? (i := 463) (by decide +kernel)⟩
theorem lw_p22 : lw_okq (⟨"VectorWays$RuleReader", "ends", "()Z"⟩, 7) := ⟨⟨by decide +kernel, by decide +kernel⟩, List.mem_of_getElem? (i := 114) (by decide +kernel), List.mem_of_getElem? (i := 466) (by decide +kernel), List.mem_of_getElem? (i := 467) (by decide +kernel)⟩
theorem lw_p23 : lw_okq (⟨"VectorWays$RuleReader", "soFar", "()J"⟩, 7) := ⟨⟨by decide +kernel, by decide +kernel⟩, List.mem_of_getElem? (i := 114) (by decide +kernel), List.mem_of_getElem? (i := 470) (by decide +kernel), List.mem_of_getElem? (i := 471) (by decide +kernel)⟩
theorem lw_p24 : lw_okq (⟨"VectorWays$RuleReader", "takes", "(LVectorWays$Tape;I)Z"⟩, 7) := ⟨⟨by decide +kernel, by decide +kernel⟩, List.mem_of_getElem? (i := 114) (by decide +kernel), List.mem_of_getElem? (i := 474) (by decide +kernel), List.mem_of_getElem? (i := 475) (by decide +kernel)⟩
theorem lw_p25 : lw_okq (⟨"VectorWays$Tape", "number", "()I"⟩, 4) := ⟨⟨by decide +kernel, by decide +kernel⟩, List.mem_of_getElem? (i := 92) (by decide +kernel), List.mem_of_getElem? (i := 478) (by decide +kernel), List.mem_of_getElem? (i := 479) (by decide +kernel)⟩
theorem lw_p26 : lw_okq (⟨"VectorWays$RuleReader", "takesNumber", "(I)Z"⟩, 7) := ⟨⟨by decide +kernel, by decide +kernel⟩, List.mem_of_getElem? (i := 114) (by decide +kernel), List.mem_of_getElem? (i := 482) (by decide +kernel), List.mem_of_getElem? (i := 483) (by decide +kernel)⟩
theorem lw_p27 : lw_okq (⟨"VectorWays$RuleReader", "setOf", "(I)J"⟩, 7) := ⟨⟨by decide +kernel, by decide +kernel⟩, List.mem_of_getElem? (i := 114) (by decide +kernel), List.mem_of_getElem? (i := 486) (by decide +kernel), List.mem_of_getElem? (i := 487) (by decide +kernel)⟩
theorem lw_p28 : lw_okq (⟨"VectorWays$RuleReader", "passes", "(II)Z"⟩, 7) := ⟨⟨by decide +kernel, by decide +kernel⟩, List.mem_of_getElem? (i := 114) (by decide +kernel), List.mem_of_getElem? (i := 490) (by decide +kernel), List.mem_of_getElem? (i := 491) (by decide +kernel)⟩
theorem lw_p29 : lw_okq (⟨"VectorWays$RuleReader", "hold", "(J)V"⟩, 7) := ⟨⟨by decide +kernel, by decide +kernel⟩, List.mem_of_getElem? (i := 114) (by decide +kernel), List.mem_of_getElem? (i := 494) (by decide +kernel), List.mem_of_getElem? (i := 495) (by decide +kernel)⟩
theorem lw_p30 : lw_okq (⟨"VectorWays$RuleReader", "takesBeginning", "(LVectorWays$Tape;)Z"⟩, 7) := ⟨⟨by decide +kernel, by decide +kernel⟩, List.mem_of_getElem? (i := 114) (by decide +kernel), List.mem_of_getElem? (i := 499) (by decide +kernel), List.mem_of_getElem? (i := 500) (by decide +kernel)⟩
theorem lw_p31 : lw_okq (⟨"VectorWays$Tape", "spells", "(Ljava/lang/String;)Z"⟩, 4) := ⟨⟨by decide +kernel, by decide +kernel⟩, List.mem_of_getElem? (i := 92) (by decide +kernel), List.mem_of_getElem? (i := 504) (by decide +kernel), List.mem_of_getElem? (i := 505) (by decide +kernel)⟩
def lw_privs_2 : List (MethodName × Nat) := [(⟨"VectorWays$Tape", "rewind", "()V"⟩, 4), (⟨"VectorWays$RuleReader", "begin", "(J)V"⟩, 7), (⟨"VectorWays$RuleReader", "isLevel", "()Z"⟩, 7), (⟨"VectorWays$Tape", "nextSort", "()I"⟩, 4), (⟨"VectorWays$Tape", "sortAt", "(I)I"⟩, 4), (⟨"VectorWays$Tape", "byteAt", "(I)I"⟩, 4), (⟨"VectorWays$RuleReader", "ends", "()Z"⟩, 7), (⟨"VectorWays$RuleReader", "soFar", "()J"⟩, 7), (⟨"VectorWays$RuleReader", "takes", "(LVectorWays$Tape;I)Z"⟩, 7), (⟨"VectorWays$Tape", "number", "()I"⟩, 4), (⟨"VectorWays$RuleReader", "takesNumber", "(I)Z"⟩, 7), (⟨"VectorWays$RuleReader", "setOf", "(I)J"⟩, 7), (⟨"VectorWays$RuleReader", "passes", "(II)Z"⟩, 7), (⟨"VectorWays$RuleReader", "hold", "(J)V"⟩, 7), (⟨"VectorWays$RuleReader", "takesBeginning", "(LVectorWays$Tape;)Z"⟩, 7), (⟨"VectorWays$Tape", "spells", "(Ljava/lang/String;)Z"⟩, 4)]
theorem lw_r2 : ∀ q ∈ lw_privs_2, lw_okq q := List.forall_mem_cons.mpr ⟨lw_p16, List.forall_mem_cons.mpr ⟨lw_p17, List.forall_mem_cons.mpr ⟨lw_p18, List.forall_mem_cons.mpr ⟨lw_p19, List.forall_mem_cons.mpr ⟨lw_p20, List.forall_mem_cons.mpr ⟨lw_p21, List.forall_mem_cons.mpr ⟨lw_p22, List.forall_mem_cons.mpr ⟨lw_p23, List.forall_mem_cons.mpr ⟨lw_p24, List.forall_mem_cons.mpr ⟨lw_p25, List.forall_mem_cons.mpr ⟨lw_p26, List.forall_mem_cons.mpr ⟨lw_p27, List.forall_mem_cons.mpr ⟨lw_p28, List.forall_mem_cons.mpr ⟨lw_p29, List.forall_mem_cons.mpr ⟨lw_p30, List.forall_mem_cons.mpr ⟨lw_p31, fun _ h => absurd h List.not_mem_nil⟩⟩⟩⟩⟩⟩⟩⟩⟩⟩⟩⟩⟩⟩⟩⟩
theorem lw_p32 : lw_okq (⟨"VectorWays$RuleReader", "deny", "()V"⟩, 7) := ⟨⟨by decide +kernel, by decide +kernel⟩, List.mem_of_getElem? (i := 114) (by decide +kernel), List.mem_of_getElem? (i := 556) (by decide +kernel), List.mem_of_getElem? (i := 557) (by decide +kernel)⟩
theorem lw_p33 : lw_okq (⟨"VectorWays$RuleReader", "takesTest", "(LVectorWays$Tape;)Z"⟩, 7) := ⟨⟨by decide +kernel, by decide +kernel⟩, List.mem_of_getElem? (i := 114) (by decide +kernel), List.mem_of_getElem? (i := 562) (by decide +kernel), List.mem_of_getElem? (i := 563) (by decide +kernel)⟩
theorem lw_p34 : lw_okq (⟨"VectorWays$RuleReader", "takesJoint", "(LVectorWays$Tape;)Z"⟩, 7) := ⟨⟨by decide +kernel, by decide +kernel⟩, List.mem_of_getElem? (i := 114) (by decide +kernel), List.mem_of_getElem? (i := 570) (by decide +kernel), List.mem_of_getElem? (i := 571) (by decide +kernel)⟩
theorem lw_p35 : lw_okq (⟨"VectorWays$Tape", "clear", "()V"⟩, 4) := ⟨⟨by decide +kernel, by decide +kernel⟩, List.mem_of_getElem? (i := 92) (by decide +kernel), List.mem_of_getElem? (i := 577) (by decide +kernel), List.mem_of_getElem? (i := 578) (by decide +kernel)⟩
theorem lw_p36 : lw_okq (⟨"VectorWays$Parts", "allows", "(II)Z"⟩, 5) := ⟨⟨by decide +kernel, by decide +kernel⟩, List.mem_of_getElem? (i := 29) (by decide +kernel), List.mem_of_getElem? (i := 585) (by decide +kernel), List.mem_of_getElem? (i := 586) (by decide +kernel)⟩
theorem lw_p37 : lw_okq (⟨"VectorWays$Changes", "takeBack", "(LVectorWays$Parts;)Z"⟩, 3) := ⟨⟨by decide +kernel, by decide +kernel⟩, List.mem_of_getElem? (i := 72) (by decide +kernel), List.mem_of_getElem? (i := 594) (by decide +kernel), List.mem_of_getElem? (i := 595) (by decide +kernel)⟩
theorem lw_p38 : lw_okq (⟨"VectorWays$WaysTable", "reach", "(IILVectorWays$Parts;)V"⟩, 3) := ⟨⟨by decide +kernel, by decide +kernel⟩, List.mem_of_getElem? (i := 195) (by decide +kernel), List.mem_of_getElem? (i := 606) (by decide +kernel), List.mem_of_getElem? (i := 607) (by decide +kernel)⟩
theorem lw_p39 : lw_okq (⟨"VectorWays$WaysTable", "counted", "(IIILVectorWays$Parts;)J"⟩, 3) := ⟨⟨by decide +kernel, by decide +kernel⟩, List.mem_of_getElem? (i := 195) (by decide +kernel), List.mem_of_getElem? (i := 614) (by decide +kernel), List.mem_of_getElem? (i := 615) (by decide +kernel)⟩
theorem lw_p40 : lw_okq (⟨"VectorWays$WaysTable", "at", "(III)J"⟩, 3) := ⟨⟨by decide +kernel, by decide +kernel⟩, List.mem_of_getElem? (i := 195) (by decide +kernel), List.mem_of_getElem? (i := 620) (by decide +kernel), List.mem_of_getElem? (i := 621) (by decide +kernel)⟩
theorem lw_p41 : lw_okq (⟨"VectorWays$WaysTable", "set", "(IIIJ)V"⟩, 3) := ⟨⟨by decide +kernel, by decide +kernel⟩, List.mem_of_getElem? (i := 195) (by decide +kernel), List.mem_of_getElem? (i := 625) (by decide +kernel), List.mem_of_getElem? (i := 626) (by decide +kernel)⟩
theorem lw_p42 : lw_okq (⟨"VectorWays$FreeTable", "reach", "(IILVectorWays$Parts;)V"⟩, 3) := ⟨⟨by decide +kernel, by decide +kernel⟩, List.mem_of_getElem? (i := 179) (by decide +kernel), List.mem_of_getElem? (i := 634) (by decide +kernel), List.mem_of_getElem? (i := 635) (by decide +kernel)⟩
theorem lw_p43 : lw_okq (⟨"VectorWays$FreeTable", "begin", "()V"⟩, 3) := ⟨⟨by decide +kernel, by decide +kernel⟩, List.mem_of_getElem? (i := 179) (by decide +kernel), List.mem_of_getElem? (i := 640) (by decide +kernel), List.mem_of_getElem? (i := 641) (by decide +kernel)⟩
theorem lw_p44 : lw_okq (⟨"VectorWays$FreeTable", "add", "(II)V"⟩, 3) := ⟨⟨by decide +kernel, by decide +kernel⟩, List.mem_of_getElem? (i := 179) (by decide +kernel), List.mem_of_getElem? (i := 644) (by decide +kernel), List.mem_of_getElem? (i := 645) (by decide +kernel)⟩
theorem lw_p45 : lw_okq (⟨"VectorWays$FreeTable", "at", "(II)J"⟩, 3) := ⟨⟨by decide +kernel, by decide +kernel⟩, List.mem_of_getElem? (i := 179) (by decide +kernel), List.mem_of_getElem? (i := 648) (by decide +kernel), List.mem_of_getElem? (i := 649) (by decide +kernel)⟩
theorem lw_p46 : lw_okq (⟨"VectorWays$Parts", "acrossTogether", "()I"⟩, 5) := ⟨⟨by decide +kernel, by decide +kernel⟩, List.mem_of_getElem? (i := 29) (by decide +kernel), List.mem_of_getElem? (i := 657) (by decide +kernel), List.mem_of_getElem? (i := 658) (by decide +kernel)⟩
theorem lw_p47 : lw_okq (⟨"VectorWays$Parts", "upTogether", "()I"⟩, 5) := ⟨⟨by decide +kernel, by decide +kernel⟩, List.mem_of_getElem? (i := 29) (by decide +kernel), List.mem_of_getElem? (i := 661) (by decide +kernel), List.mem_of_getElem? (i := 662) (by decide +kernel)⟩
def lw_privs_3 : List (MethodName × Nat) := [(⟨"VectorWays$RuleReader", "deny", "()V"⟩, 7), (⟨"VectorWays$RuleReader", "takesTest", "(LVectorWays$Tape;)Z"⟩, 7), (⟨"VectorWays$RuleReader", "takesJoint", "(LVectorWays$Tape;)Z"⟩, 7), (⟨"VectorWays$Tape", "clear", "()V"⟩, 4), (⟨"VectorWays$Parts", "allows", "(II)Z"⟩, 5), (⟨"VectorWays$Changes", "takeBack", "(LVectorWays$Parts;)Z"⟩, 3), (⟨"VectorWays$WaysTable", "reach", "(IILVectorWays$Parts;)V"⟩, 3), (⟨"VectorWays$WaysTable", "counted", "(IIILVectorWays$Parts;)J"⟩, 3), (⟨"VectorWays$WaysTable", "at", "(III)J"⟩, 3), (⟨"VectorWays$WaysTable", "set", "(IIIJ)V"⟩, 3), (⟨"VectorWays$FreeTable", "reach", "(IILVectorWays$Parts;)V"⟩, 3), (⟨"VectorWays$FreeTable", "begin", "()V"⟩, 3), (⟨"VectorWays$FreeTable", "add", "(II)V"⟩, 3), (⟨"VectorWays$FreeTable", "at", "(II)J"⟩, 3), (⟨"VectorWays$Parts", "acrossTogether", "()I"⟩, 5), (⟨"VectorWays$Parts", "upTogether", "()I"⟩, 5)]
theorem lw_r3 : ∀ q ∈ lw_privs_3, lw_okq q := List.forall_mem_cons.mpr ⟨lw_p32, List.forall_mem_cons.mpr ⟨lw_p33, List.forall_mem_cons.mpr ⟨lw_p34, List.forall_mem_cons.mpr ⟨lw_p35, List.forall_mem_cons.mpr ⟨lw_p36, List.forall_mem_cons.mpr ⟨lw_p37, List.forall_mem_cons.mpr ⟨lw_p38, List.forall_mem_cons.mpr ⟨lw_p39, List.forall_mem_cons.mpr ⟨lw_p40, List.forall_mem_cons.mpr ⟨lw_p41, List.forall_mem_cons.mpr ⟨lw_p42, List.forall_mem_cons.mpr ⟨lw_p43, List.forall_mem_cons.mpr ⟨lw_p44, List.forall_mem_cons.mpr ⟨lw_p45, List.forall_mem_cons.mpr ⟨lw_p46, List.forall_mem_cons.mpr ⟨lw_p47, fun _ h => absurd h List.not_mem_nil⟩⟩⟩⟩⟩⟩⟩⟩⟩⟩⟩⟩⟩⟩⟩⟩
theorem lw_p48 : lw_okq (⟨"VectorWays$WaysTable", "taken", "(IIIILVectorWays$Parts;)I"⟩, 3) := ⟨⟨by decide +kernel, by decide +kernel⟩, List.mem_of_getElem? (i := 195) (by decide +kernel), List.mem_of_getElem? (i := 669) (by decide +kernel), List.mem_of_getElem? (i := 670) (by decide +kernel)⟩
theorem lw_p49 : lw_okq (⟨"VectorWays$WaysTable", "through", "(IIIILVectorWays$Parts;)J"⟩, 3) := ⟨⟨by decide +kernel, by decide +kernel⟩, List.mem_of_getElem? (i := 195) (by decide +kernel), List.mem_of_getElem? (i := 673) (by decide +kernel), List.mem_of_getElem? (i := 674) (by decide +kernel)⟩
theorem lw_p50 : lw_okq (⟨"VectorWays$Folder", "folded", "(IIILVectorWays$Parts;)J"⟩, 1) := ⟨⟨by decide +kernel, by decide +kernel⟩, List.mem_of_getElem? (i := 211) (by decide +kernel), List.mem_of_getElem? (i := 681) (by decide +kernel), List.mem_of_getElem? (i := 682) (by decide +kernel)⟩
theorem lw_p51 : lw_okq (⟨"VectorWays$Folder", "foldedWith", "(IIIILVectorWays$Parts;)J"⟩, 1) := ⟨⟨by decide +kernel, by decide +kernel⟩, List.mem_of_getElem? (i := 211) (by decide +kernel), List.mem_of_getElem? (i := 689) (by decide +kernel), List.mem_of_getElem? (i := 690) (by decide +kernel)⟩
theorem lw_p52 : lw_okq (⟨"VectorWays$Folder", "at", "(II)J"⟩, 1) := ⟨⟨by decide +kernel, by decide +kernel⟩, List.mem_of_getElem? (i := 211) (by decide +kernel), List.mem_of_getElem? (i := 694) (by decide +kernel), List.mem_of_getElem? (i := 695) (by decide +kernel)⟩
theorem lw_p53 : lw_okq (⟨"VectorWays$Folder", "set", "(IIJ)V"⟩, 1) := ⟨⟨by decide +kernel, by decide +kernel⟩, List.mem_of_getElem? (i := 211) (by decide +kernel), List.mem_of_getElem? (i := 713) (by decide +kernel), List.mem_of_getElem? (i := 714) (by decide +kernel)⟩
theorem lw_p54 : lw_okq (⟨"VectorWays$Fan", "chambers", "()I"⟩, 6) := ⟨⟨by decide +kernel, by decide +kernel⟩, List.mem_of_getElem? (i := 145) (by decide +kernel), List.mem_of_getElem? (i := 738) (by decide +kernel), List.mem_of_getElem? (i := 739) (by decide +kernel)⟩
theorem lw_p55 : lw_okq (⟨"VectorWays$Fan", "firstSpan", "(III)I"⟩, 6) := ⟨⟨by decide +kernel, by decide +kernel⟩, List.mem_of_getElem? (i := 145) (by decide +kernel), List.mem_of_getElem? (i := 743) (by decide +kernel), List.mem_of_getElem? (i := 744) (by decide +kernel)⟩
theorem lw_p56 : lw_okq (⟨"VectorWays$Fan", "secondSpan", "(III)I"⟩, 6) := ⟨⟨by decide +kernel, by decide +kernel⟩, List.mem_of_getElem? (i := 145) (by decide +kernel), List.mem_of_getElem? (i := 747) (by decide +kernel), List.mem_of_getElem? (i := 748) (by decide +kernel)⟩
theorem lw_p57 : lw_okq (⟨"VectorWays", "hasFormula", "(I)Z"⟩, 14) := ⟨⟨by decide +kernel, by decide +kernel⟩, List.mem_of_getElem? (i := 21) (by decide +kernel), List.mem_of_getElem? (i := 755) (by decide +kernel), List.mem_of_getElem? (i := 756) (by decide +kernel)⟩
theorem lw_p58 : lw_okq (⟨"VectorWays$Fan", "hasFormulas", "()Z"⟩, 6) := ⟨⟨by decide +kernel, by decide +kernel⟩, List.mem_of_getElem? (i := 145) (by decide +kernel), List.mem_of_getElem? (i := 759) (by decide +kernel), List.mem_of_getElem? (i := 760) (by decide +kernel)⟩
theorem lw_p59 : lw_okq (⟨"VectorWays$Formulas", "locate", "(LVectorWays$Fan;III)V"⟩, 9) := ⟨⟨by decide +kernel, by decide +kernel⟩, List.mem_of_getElem? (i := 221) (by decide +kernel), List.mem_of_getElem? (i := 764) (by decide +kernel), List.mem_of_getElem? (i := 765) (by decide +kernel)⟩
theorem lw_p60 : lw_okq (⟨"VectorWays$Fan", "size", "(I)I"⟩, 6) := ⟨⟨by decide +kernel, by decide +kernel⟩, List.mem_of_getElem? (i := 145) (by decide +kernel), List.mem_of_getElem? (i := 768) (by decide +kernel), List.mem_of_getElem? (i := 769) (by decide +kernel)⟩
theorem lw_p61 : lw_okq (⟨"VectorWays", "readyFormula", "(III)V"⟩, 14) := ⟨⟨by decide +kernel, by decide +kernel⟩, List.mem_of_getElem? (i := 21) (by decide +kernel), List.mem_of_getElem? (i := 782) (by decide +kernel), List.mem_of_getElem? (i := 783) (by decide +kernel)⟩
theorem lw_p62 : lw_okq (⟨"VectorWays$Formulas", "farX", "(I)I"⟩, 9) := ⟨⟨by decide +kernel, by decide +kernel⟩, List.mem_of_getElem? (i := 221) (by decide +kernel), List.mem_of_getElem? (i := 786) (by decide +kernel), List.mem_of_getElem? (i := 787) (by decide +kernel)⟩
theorem lw_p63 : lw_okq (⟨"VectorWays$Formulas", "farY", "(I)I"⟩, 9) := ⟨⟨by decide +kernel, by decide +kernel⟩, List.mem_of_getElem? (i := 221) (by decide +kernel), List.mem_of_getElem? (i := 791) (by decide +kernel), List.mem_of_getElem? (i := 792) (by decide +kernel)⟩
def lw_privs_4 : List (MethodName × Nat) := [(⟨"VectorWays$WaysTable", "taken", "(IIIILVectorWays$Parts;)I"⟩, 3), (⟨"VectorWays$WaysTable", "through", "(IIIILVectorWays$Parts;)J"⟩, 3), (⟨"VectorWays$Folder", "folded", "(IIILVectorWays$Parts;)J"⟩, 1), (⟨"VectorWays$Folder", "foldedWith", "(IIIILVectorWays$Parts;)J"⟩, 1), (⟨"VectorWays$Folder", "at", "(II)J"⟩, 1), (⟨"VectorWays$Folder", "set", "(IIJ)V"⟩, 1), (⟨"VectorWays$Fan", "chambers", "()I"⟩, 6), (⟨"VectorWays$Fan", "firstSpan", "(III)I"⟩, 6), (⟨"VectorWays$Fan", "secondSpan", "(III)I"⟩, 6), (⟨"VectorWays", "hasFormula", "(I)Z"⟩, 14), (⟨"VectorWays$Fan", "hasFormulas", "()Z"⟩, 6), (⟨"VectorWays$Formulas", "locate", "(LVectorWays$Fan;III)V"⟩, 9), (⟨"VectorWays$Fan", "size", "(I)I"⟩, 6), (⟨"VectorWays", "readyFormula", "(III)V"⟩, 14), (⟨"VectorWays$Formulas", "farX", "(I)I"⟩, 9), (⟨"VectorWays$Formulas", "farY", "(I)I"⟩, 9)]
theorem lw_r4 : ∀ q ∈ lw_privs_4, lw_okq q := List.forall_mem_cons.mpr ⟨lw_p48, List.forall_mem_cons.mpr ⟨lw_p49, List.forall_mem_cons.mpr ⟨lw_p50, List.forall_mem_cons.mpr ⟨lw_p51, List.forall_mem_cons.mpr ⟨lw_p52, List.forall_mem_cons.mpr ⟨lw_p53, List.forall_mem_cons.mpr ⟨lw_p54, List.forall_mem_cons.mpr ⟨lw_p55, List.forall_mem_cons.mpr ⟨lw_p56, List.forall_mem_cons.mpr ⟨lw_p57, List.forall_mem_cons.mpr ⟨lw_p58, List.forall_mem_cons.mpr ⟨lw_p59, List.forall_mem_cons.mpr ⟨lw_p60, List.forall_mem_cons.mpr ⟨lw_p61, List.forall_mem_cons.mpr ⟨lw_p62, List.forall_mem_cons.mpr ⟨lw_p63, fun _ h => absurd h List.not_mem_nil⟩⟩⟩⟩⟩⟩⟩⟩⟩⟩⟩⟩⟩⟩⟩⟩
theorem lw_p64 : lw_okq (⟨"VectorWays$Formulas", "readDifferences", "(ILVectorWays$FreeTable;)V"⟩, 9) := ⟨⟨by decide +kernel, by decide +kernel⟩, List.mem_of_getElem? (i := 221) (by decide +kernel), List.mem_of_getElem? (i := 795) (by decide +kernel), List.mem_of_getElem? (i := 796) (by decide +kernel)⟩
theorem lw_p65 : lw_okq (⟨"VectorWays$Formulas", "set", "(IIJ)V"⟩, 9) := ⟨⟨by decide +kernel, by decide +kernel⟩, List.mem_of_getElem? (i := 221) (by decide +kernel), List.mem_of_getElem? (i := 800) (by decide +kernel), List.mem_of_getElem? (i := 801) (by decide +kernel)⟩
theorem lw_p66 : lw_okq (⟨"VectorWays$Formulas", "differenceAt", "(II)J"⟩, 9) := ⟨⟨by decide +kernel, by decide +kernel⟩, List.mem_of_getElem? (i := 221) (by decide +kernel), List.mem_of_getElem? (i := 804) (by decide +kernel), List.mem_of_getElem? (i := 805) (by decide +kernel)⟩
theorem lw_p67 : lw_okq (⟨"VectorWays$Formulas", "told", "(ILVectorWays$FreeTable;)J"⟩, 9) := ⟨⟨by decide +kernel, by decide +kernel⟩, List.mem_of_getElem? (i := 221) (by decide +kernel), List.mem_of_getElem? (i := 813) (by decide +kernel), List.mem_of_getElem? (i := 814) (by decide +kernel)⟩
theorem lw_p68 : lw_okq (⟨"VectorWays", "sheetAt", "(I)LVectorWays$Sheet;"⟩, 14) := ⟨⟨by decide +kernel, by decide +kernel⟩, List.mem_of_getElem? (i := 21) (by decide +kernel), List.mem_of_getElem? (i := 829) (by decide +kernel), List.mem_of_getElem? (i := 830) (by decide +kernel)⟩
theorem lw_p69 : lw_okq (⟨"VectorWays$Sheet", "become", "(II)V"⟩, 3) := ⟨⟨by decide +kernel, by decide +kernel⟩, List.mem_of_getElem? (i := 260) (by decide +kernel), List.mem_of_getElem? (i := 833) (by decide +kernel), List.mem_of_getElem? (i := 834) (by decide +kernel)⟩
theorem lw_p70 : lw_okq (⟨"VectorWays$Sheet", "hasPlace", "(I)Z"⟩, 3) := ⟨⟨by decide +kernel, by decide +kernel⟩, List.mem_of_getElem? (i := 260) (by decide +kernel), List.mem_of_getElem? (i := 844) (by decide +kernel), List.mem_of_getElem? (i := 845) (by decide +kernel)⟩
theorem lw_p71 : lw_okq (⟨"VectorWays$Sheet", "cut", "(J)J"⟩, 3) := ⟨⟨by decide +kernel, by decide +kernel⟩, List.mem_of_getElem? (i := 260) (by decide +kernel), List.mem_of_getElem? (i := 848) (by decide +kernel), List.mem_of_getElem? (i := 849) (by decide +kernel)⟩
theorem lw_p72 : lw_okq (⟨"VectorWays$Sheet", "lastUp", "(I)I"⟩, 3) := ⟨⟨by decide +kernel, by decide +kernel⟩, List.mem_of_getElem? (i := 260) (by decide +kernel), List.mem_of_getElem? (i := 863) (by decide +kernel), List.mem_of_getElem? (i := 864) (by decide +kernel)⟩
theorem lw_p73 : lw_okq (⟨"VectorWays", "waysAtPlace", "(II)J"⟩, 14) := ⟨⟨by decide +kernel, by decide +kernel⟩, List.mem_of_getElem? (i := 21) (by decide +kernel), List.mem_of_getElem? (i := 867) (by decide +kernel), List.mem_of_getElem? (i := 868) (by decide +kernel)⟩
theorem lw_p74 : lw_okq (⟨"VectorWays$Sheet", "greatest", "()J"⟩, 3) := ⟨⟨by decide +kernel, by decide +kernel⟩, List.mem_of_getElem? (i := 260) (by decide +kernel), List.mem_of_getElem? (i := 871) (by decide +kernel), List.mem_of_getElem? (i := 872) (by decide +kernel)⟩
theorem lw_p75 : lw_okq (⟨"VectorWays", "isTableWith", "(LVectorWays$Sheet;III)Z"⟩, 14) := ⟨⟨by decide +kernel, by decide +kernel⟩, List.mem_of_getElem? (i := 21) (by decide +kernel), List.mem_of_getElem? (i := 885) (by decide +kernel), List.mem_of_getElem? (i := 886) (by decide +kernel)⟩
theorem lw_p76 : lw_okq (⟨"VectorWays$FreeTable", "atWith", "(IIII)J"⟩, 3) := ⟨⟨by decide +kernel, by decide +kernel⟩, List.mem_of_getElem? (i := 179) (by decide +kernel), List.mem_of_getElem? (i := 889) (by decide +kernel), List.mem_of_getElem? (i := 890) (by decide +kernel)⟩
theorem lw_p77 : lw_okq (⟨"VectorWays", "drawn", "()I"⟩, 14) := ⟨⟨by decide +kernel, by decide +kernel⟩, List.mem_of_getElem? (i := 21) (by decide +kernel), List.mem_of_getElem? (i := 902) (by decide +kernel), List.mem_of_getElem? (i := 903) (by decide +kernel)⟩
theorem lw_p78 : lw_okq (⟨"VectorWays$Changes", "forget", "()V"⟩, 3) := ⟨⟨by decide +kernel, by decide +kernel⟩, List.mem_of_getElem? (i := 72) (by decide +kernel), List.mem_of_getElem? (i := 920) (by decide +kernel), List.mem_of_getElem? (i := 921) (by decide +kernel)⟩
theorem lw_p79 : lw_okq (⟨"VectorWaysModel", "comes", "(II)I"⟩, 48) := ⟨⟨by decide +kernel, by decide +kernel⟩, List.mem_of_getElem? (i := 924) (by decide +kernel), List.mem_of_getElem? (i := 1082) (by decide +kernel), List.mem_of_getElem? (i := 1083) (by decide +kernel)⟩
def lw_privs_5 : List (MethodName × Nat) := [(⟨"VectorWays$Formulas", "readDifferences", "(ILVectorWays$FreeTable;)V"⟩, 9), (⟨"VectorWays$Formulas", "set", "(IIJ)V"⟩, 9), (⟨"VectorWays$Formulas", "differenceAt", "(II)J"⟩, 9), (⟨"VectorWays$Formulas", "told", "(ILVectorWays$FreeTable;)J"⟩, 9), (⟨"VectorWays", "sheetAt", "(I)LVectorWays$Sheet;"⟩, 14), (⟨"VectorWays$Sheet", "become", "(II)V"⟩, 3), (⟨"VectorWays$Sheet", "hasPlace", "(I)Z"⟩, 3), (⟨"VectorWays$Sheet", "cut", "(J)J"⟩, 3), (⟨"VectorWays$Sheet", "lastUp", "(I)I"⟩, 3), (⟨"VectorWays", "waysAtPlace", "(II)J"⟩, 14), (⟨"VectorWays$Sheet", "greatest", "()J"⟩, 3), (⟨"VectorWays", "isTableWith", "(LVectorWays$Sheet;III)Z"⟩, 14), (⟨"VectorWays$FreeTable", "atWith", "(IIII)J"⟩, 3), (⟨"VectorWays", "drawn", "()I"⟩, 14), (⟨"VectorWays$Changes", "forget", "()V"⟩, 3), (⟨"VectorWaysModel", "comes", "(II)I"⟩, 48)]
theorem lw_r5 : ∀ q ∈ lw_privs_5, lw_okq q := List.forall_mem_cons.mpr ⟨lw_p64, List.forall_mem_cons.mpr ⟨lw_p65, List.forall_mem_cons.mpr ⟨lw_p66, List.forall_mem_cons.mpr ⟨lw_p67, List.forall_mem_cons.mpr ⟨lw_p68, List.forall_mem_cons.mpr ⟨lw_p69, List.forall_mem_cons.mpr ⟨lw_p70, List.forall_mem_cons.mpr ⟨lw_p71, List.forall_mem_cons.mpr ⟨lw_p72, List.forall_mem_cons.mpr ⟨lw_p73, List.forall_mem_cons.mpr ⟨lw_p74, List.forall_mem_cons.mpr ⟨lw_p75, List.forall_mem_cons.mpr ⟨lw_p76, List.forall_mem_cons.mpr ⟨lw_p77, List.forall_mem_cons.mpr ⟨lw_p78, List.forall_mem_cons.mpr ⟨lw_p79, fun _ h => absurd h List.not_mem_nil⟩⟩⟩⟩⟩⟩⟩⟩⟩⟩⟩⟩⟩⟩⟩⟩
theorem lw_p80 : lw_okq (⟨"VectorWaysModel", "changes", "(II)V"⟩, 48) := ⟨⟨by decide +kernel, by decide +kernel⟩, List.mem_of_getElem? (i := 924) (by decide +kernel), List.mem_of_getElem? (i := 1086) (by decide +kernel), List.mem_of_getElem? (i := 1087) (by decide +kernel)⟩
theorem lw_p81 : lw_okq (⟨"VectorWaysModel", "isPart", "(I)Z"⟩, 48) := ⟨⟨by decide +kernel, by decide +kernel⟩, List.mem_of_getElem? (i := 924) (by decide +kernel), List.mem_of_getElem? (i := 1103) (by decide +kernel), List.mem_of_getElem? (i := 1104) (by decide +kernel)⟩
theorem lw_p82 : lw_okq (⟨"VectorWaysModel", "rayOf", "(I)I"⟩, 48) := ⟨⟨by decide +kernel, by decide +kernel⟩, List.mem_of_getElem? (i := 924) (by decide +kernel), List.mem_of_getElem? (i := 1111) (by decide +kernel), List.mem_of_getElem? (i := 1112) (by decide +kernel)⟩
theorem lw_p83 : lw_okq (⟨"VectorWaysModel", "findRays", "()V"⟩, 48) := ⟨⟨by decide +kernel, by decide +kernel⟩, List.mem_of_getElem? (i := 924) (by decide +kernel), List.mem_of_getElem? (i := 1115) (by decide +kernel), List.mem_of_getElem? (i := 1116) (by decide +kernel)⟩
theorem lw_p84 : lw_okq (⟨"VectorWaysModel", "det", "(II)I"⟩, 48) := ⟨⟨by decide +kernel, by decide +kernel⟩, List.mem_of_getElem? (i := 924) (by decide +kernel), List.mem_of_getElem? (i := 1119) (by decide +kernel), List.mem_of_getElem? (i := 1120) (by decide +kernel)⟩
theorem lw_p85 : lw_okq (⟨"VectorWaysModel", "next", "()V"⟩, 48) := ⟨⟨by decide +kernel, by decide +kernel⟩, List.mem_of_getElem? (i := 924) (by decide +kernel), List.mem_of_getElem? (i := 1142) (by decide +kernel), List.mem_of_getElem? (i := 1143) (by decide +kernel)⟩
theorem lw_p86 : lw_okq (⟨"VectorWaysModel", "isAt", "(III)Z"⟩, 48) := ⟨⟨by decide +kernel, by decide +kernel⟩, List.mem_of_getElem? (i := 924) (by decide +kernel), List.mem_of_getElem? (i := 1146) (by decide +kernel), List.mem_of_getElem? (i := 1147) (by decide +kernel)⟩
theorem lw_p87 : lw_okq (⟨"VectorWaysModel", "some", "(I)J"⟩, 48) := ⟨⟨by decide +kernel, by decide +kernel⟩, List.mem_of_getElem? (i := 924) (by decide +kernel), List.mem_of_getElem? (i := 1150) (by decide +kernel), List.mem_of_getElem? (i := 1151) (by decide +kernel)⟩
theorem lw_p88 : lw_okq (⟨"VectorWaysModel", "every", "(I)J"⟩, 48) := ⟨⟨by decide +kernel, by decide +kernel⟩, List.mem_of_getElem? (i := 924) (by decide +kernel), List.mem_of_getElem? (i := 1154) (by decide +kernel), List.mem_of_getElem? (i := 1155) (by decide +kernel)⟩
theorem lw_p89 : lw_okq (⟨"VectorWaysModel", "one", "(I)J"⟩, 48) := ⟨⟨by decide +kernel, by decide +kernel⟩, List.mem_of_getElem? (i := 924) (by decide +kernel), List.mem_of_getElem? (i := 1158) (by decide +kernel), List.mem_of_getElem? (i := 1159) (by decide +kernel)⟩
theorem lw_p90 : lw_okq (⟨"VectorWaysModel", "takes", "(I)Z"⟩, 48) := ⟨⟨by decide +kernel, by decide +kernel⟩, List.mem_of_getElem? (i := 924) (by decide +kernel), List.mem_of_getElem? (i := 1162) (by decide +kernel), List.mem_of_getElem? (i := 1163) (by decide +kernel)⟩
theorem lw_p91 : lw_okq (⟨"VectorWaysModel", "here", "()I"⟩, 48) := ⟨⟨by decide +kernel, by decide +kernel⟩, List.mem_of_getElem? (i := 924) (by decide +kernel), List.mem_of_getElem? (i := 1166) (by decide +kernel), List.mem_of_getElem? (i := 1167) (by decide +kernel)⟩
theorem lw_p92 : lw_okq (⟨"VectorWaysModel", "number", "(I)I"⟩, 48) := ⟨⟨by decide +kernel, by decide +kernel⟩, List.mem_of_getElem? (i := 924) (by decide +kernel), List.mem_of_getElem? (i := 1172) (by decide +kernel), List.mem_of_getElem? (i := 1173) (by decide +kernel)⟩
theorem lw_p93 : lw_okq (⟨"VectorWaysModel", "takesSign", "(I)Z"⟩, 48) := ⟨⟨by decide +kernel, by decide +kernel⟩, List.mem_of_getElem? (i := 924) (by decide +kernel), List.mem_of_getElem? (i := 1183) (by decide +kernel), List.mem_of_getElem? (i := 1184) (by decide +kernel)⟩
theorem lw_p94 : lw_okq (⟨"VectorWaysModel", "count", "(II)V"⟩, 48) := ⟨⟨by decide +kernel, by decide +kernel⟩, List.mem_of_getElem? (i := 924) (by decide +kernel), List.mem_of_getElem? (i := 1199) (by decide +kernel), List.mem_of_getElem? (i := 1200) (by decide +kernel)⟩
theorem lw_p95 : lw_okq (⟨"VectorWaysModel", "countFree", "(II)V"⟩, 48) := ⟨⟨by decide +kernel, by decide +kernel⟩, List.mem_of_getElem? (i := 924) (by decide +kernel), List.mem_of_getElem? (i := 1210) (by decide +kernel), List.mem_of_getElem? (i := 1211) (by decide +kernel)⟩
def lw_privs_6 : List (MethodName × Nat) := [(⟨"VectorWaysModel", "changes", "(II)V"⟩, 48), (⟨"VectorWaysModel", "isPart", "(I)Z"⟩, 48), (⟨"VectorWaysModel", "rayOf", "(I)I"⟩, 48), (⟨"VectorWaysModel", "findRays", "()V"⟩, 48), (⟨"VectorWaysModel", "det", "(II)I"⟩, 48), (⟨"VectorWaysModel", "next", "()V"⟩, 48), (⟨"VectorWaysModel", "isAt", "(III)Z"⟩, 48), (⟨"VectorWaysModel", "some", "(I)J"⟩, 48), (⟨"VectorWaysModel", "every", "(I)J"⟩, 48), (⟨"VectorWaysModel", "one", "(I)J"⟩, 48), (⟨"VectorWaysModel", "takes", "(I)Z"⟩, 48), (⟨"VectorWaysModel", "here", "()I"⟩, 48), (⟨"VectorWaysModel", "number", "(I)I"⟩, 48), (⟨"VectorWaysModel", "takesSign", "(I)Z"⟩, 48), (⟨"VectorWaysModel", "count", "(II)V"⟩, 48), (⟨"VectorWaysModel", "countFree", "(II)V"⟩, 48)]
theorem lw_r6 : ∀ q ∈ lw_privs_6, lw_okq q := List.forall_mem_cons.mpr ⟨lw_p80, List.forall_mem_cons.mpr ⟨lw_p81, List.forall_mem_cons.mpr ⟨lw_p82, List.forall_mem_cons.mpr ⟨lw_p83, List.forall_mem_cons.mpr ⟨lw_p84, List.forall_mem_cons.mpr ⟨lw_p85, List.forall_mem_cons.mpr ⟨lw_p86, List.forall_mem_cons.mpr ⟨lw_p87, List.forall_mem_cons.mpr ⟨lw_p88, List.forall_mem_cons.mpr ⟨lw_p89, List.forall_mem_cons.mpr ⟨lw_p90, List.forall_mem_cons.mpr ⟨lw_p91, List.forall_mem_cons.mpr ⟨lw_p92, List.forall_mem_cons.mpr ⟨lw_p93, List.forall_mem_cons.mpr ⟨lw_p94, List.forall_mem_cons.mpr ⟨lw_p95, fun _ h => absurd h List.not_mem_nil⟩⟩⟩⟩⟩⟩⟩⟩⟩⟩⟩⟩⟩⟩⟩⟩
theorem lw_p96 : lw_okq (⟨"VectorWaysModel", "addsPart", "(II)V"⟩, 48) := ⟨⟨by decide +kernel, by decide +kernel⟩, List.mem_of_getElem? (i := 924) (by decide +kernel), List.mem_of_getElem? (i := 1214) (by decide +kernel), List.mem_of_getElem? (i := 1215) (by decide +kernel)⟩
theorem lw_p97 : lw_okq (⟨"VectorWaysModel", "freeAt", "(II)J"⟩, 48) := ⟨⟨by decide +kernel, by decide +kernel⟩, List.mem_of_getElem? (i := 924) (by decide +kernel), List.mem_of_getElem? (i := 1218) (by decide +kernel), List.mem_of_getElem? (i := 1219) (by decide +kernel)⟩
theorem lw_p98 : lw_okq (⟨"VectorWaysModel", "foldAt", "(IIII)J"⟩, 48) := ⟨⟨by decide +kernel, by decide +kernel⟩, List.mem_of_getElem? (i := 924) (by decide +kernel), List.mem_of_getElem? (i := 1234) (by decide +kernel), List.mem_of_getElem? (i := 1235) (by decide +kernel)⟩
theorem lw_p99 : lw_okq (⟨"VectorWaysModel", "periodNow", "()I"⟩, 48) := ⟨⟨by decide +kernel, by decide +kernel⟩, List.mem_of_getElem? (i := 924) (by decide +kernel), List.mem_of_getElem? (i := 1256) (by decide +kernel), List.mem_of_getElem? (i := 1257) (by decide +kernel)⟩
theorem lw_p100 : lw_okq (⟨"VectorWaysModel", "chambers", "()I"⟩, 48) := ⟨⟨by decide +kernel, by decide +kernel⟩, List.mem_of_getElem? (i := 924) (by decide +kernel), List.mem_of_getElem? (i := 1268) (by decide +kernel), List.mem_of_getElem? (i := 1269) (by decide +kernel)⟩
theorem lw_p101 : lw_okq (⟨"VectorWaysModel", "looks", "(III)V"⟩, 48) := ⟨⟨by decide +kernel, by decide +kernel⟩, List.mem_of_getElem? (i := 924) (by decide +kernel), List.mem_of_getElem? (i := 1272) (by decide +kernel), List.mem_of_getElem? (i := 1273) (by decide +kernel)⟩
theorem lw_p102 : lw_okq (⟨"VectorWaysModel", "isAsked", "(III)Z"⟩, 48) := ⟨⟨by decide +kernel, by decide +kernel⟩, List.mem_of_getElem? (i := 924) (by decide +kernel), List.mem_of_getElem? (i := 1280) (by decide +kernel), List.mem_of_getElem? (i := 1281) (by decide +kernel)⟩
theorem lw_p103 : lw_okq (⟨"VectorWaysModel", "areFormulas", "()Z"⟩, 48) := ⟨⟨by decide +kernel, by decide +kernel⟩, List.mem_of_getElem? (i := 924) (by decide +kernel), List.mem_of_getElem? (i := 1284) (by decide +kernel), List.mem_of_getElem? (i := 1285) (by decide +kernel)⟩
theorem lw_p104 : lw_okq (⟨"VectorWaysModel", "goesHome", "(III)V"⟩, 48) := ⟨⟨by decide +kernel, by decide +kernel⟩, List.mem_of_getElem? (i := 924) (by decide +kernel), List.mem_of_getElem? (i := 1288) (by decide +kernel), List.mem_of_getElem? (i := 1289) (by decide +kernel)⟩
theorem lw_p105 : lw_okq (⟨"VectorWaysModel", "differenceAt", "(II)J"⟩, 48) := ⟨⟨by decide +kernel, by decide +kernel⟩, List.mem_of_getElem? (i := 924) (by decide +kernel), List.mem_of_getElem? (i := 1299) (by decide +kernel), List.mem_of_getElem? (i := 1300) (by decide +kernel)⟩
theorem lw_p106 : lw_okq (⟨"VectorWaysModel", "formulaAt", "(III)J"⟩, 48) := ⟨⟨by decide +kernel, by decide +kernel⟩, List.mem_of_getElem? (i := 924) (by decide +kernel), List.mem_of_getElem? (i := 1310) (by decide +kernel), List.mem_of_getElem? (i := 1311) (by decide +kernel)⟩
theorem lw_p107 : lw_okq (⟨"VectorWaysModel", "lacks", "(II)I"⟩, 48) := ⟨⟨by decide +kernel, by decide +kernel⟩, List.mem_of_getElem? (i := 924) (by decide +kernel), List.mem_of_getElem? (i := 1340) (by decide +kernel), List.mem_of_getElem? (i := 1341) (by decide +kernel)⟩
theorem lw_p108 : lw_okq (⟨"VectorWaysModel", "countTable", "(II)V"⟩, 48) := ⟨⟨by decide +kernel, by decide +kernel⟩, List.mem_of_getElem? (i := 924) (by decide +kernel), List.mem_of_getElem? (i := 1344) (by decide +kernel), List.mem_of_getElem? (i := 1345) (by decide +kernel)⟩
theorem lw_p109 : lw_okq (⟨"VectorWaysModel", "isFree", "(II)Z"⟩, 48) := ⟨⟨by decide +kernel, by decide +kernel⟩, List.mem_of_getElem? (i := 924) (by decide +kernel), List.mem_of_getElem? (i := 1358) (by decide +kernel), List.mem_of_getElem? (i := 1359) (by decide +kernel)⟩
theorem lw_p110 : lw_okq (⟨"VectorWaysModel", "drawn", "()I"⟩, 48) := ⟨⟨by decide +kernel, by decide +kernel⟩, List.mem_of_getElem? (i := 924) (by decide +kernel), List.mem_of_getElem? (i := 1370) (by decide +kernel), List.mem_of_getElem? (i := 1371) (by decide +kernel)⟩
def lw_privs_7 : List (MethodName × Nat) := [(⟨"VectorWaysModel", "addsPart", "(II)V"⟩, 48), (⟨"VectorWaysModel", "freeAt", "(II)J"⟩, 48), (⟨"VectorWaysModel", "foldAt", "(IIII)J"⟩, 48), (⟨"VectorWaysModel", "periodNow", "()I"⟩, 48), (⟨"VectorWaysModel", "chambers", "()I"⟩, 48), (⟨"VectorWaysModel", "looks", "(III)V"⟩, 48), (⟨"VectorWaysModel", "isAsked", "(III)Z"⟩, 48), (⟨"VectorWaysModel", "areFormulas", "()Z"⟩, 48), (⟨"VectorWaysModel", "goesHome", "(III)V"⟩, 48), (⟨"VectorWaysModel", "differenceAt", "(II)J"⟩, 48), (⟨"VectorWaysModel", "formulaAt", "(III)J"⟩, 48), (⟨"VectorWaysModel", "lacks", "(II)I"⟩, 48), (⟨"VectorWaysModel", "countTable", "(II)V"⟩, 48), (⟨"VectorWaysModel", "isFree", "(II)Z"⟩, 48), (⟨"VectorWaysModel", "drawn", "()I"⟩, 48)]
theorem lw_r7 : ∀ q ∈ lw_privs_7, lw_okq q := List.forall_mem_cons.mpr ⟨lw_p96, List.forall_mem_cons.mpr ⟨lw_p97, List.forall_mem_cons.mpr ⟨lw_p98, List.forall_mem_cons.mpr ⟨lw_p99, List.forall_mem_cons.mpr ⟨lw_p100, List.forall_mem_cons.mpr ⟨lw_p101, List.forall_mem_cons.mpr ⟨lw_p102, List.forall_mem_cons.mpr ⟨lw_p103, List.forall_mem_cons.mpr ⟨lw_p104, List.forall_mem_cons.mpr ⟨lw_p105, List.forall_mem_cons.mpr ⟨lw_p106, List.forall_mem_cons.mpr ⟨lw_p107, List.forall_mem_cons.mpr ⟨lw_p108, List.forall_mem_cons.mpr ⟨lw_p109, List.forall_mem_cons.mpr ⟨lw_p110, fun _ h => absurd h List.not_mem_nil⟩⟩⟩⟩⟩⟩⟩⟩⟩⟩⟩⟩⟩⟩⟩
def lw_privs : List (MethodName × Nat) := lw_privs_1 ++ (lw_privs_2 ++ (lw_privs_3 ++ (lw_privs_4 ++ (lw_privs_5 ++ (lw_privs_6 ++ (lw_privs_7))))))
def lw_tbl : List Cond := k2_sels lw_privs ++ tables_1
theorem lw_privs_ok : ∀ q ∈ lw_privs, lw_okq q := by
  show ∀ q ∈ lw_privs_1 ++ (lw_privs_2 ++ (lw_privs_3 ++ (lw_privs_4 ++ (lw_privs_5 ++ (lw_privs_6 ++ (lw_privs_7)))))), lw_okq q
  exact List.forall_mem_append.mpr ⟨lw_r1, List.forall_mem_append.mpr ⟨lw_r2, List.forall_mem_append.mpr ⟨lw_r3, List.forall_mem_append.mpr ⟨lw_r4, List.forall_mem_append.mpr ⟨lw_r5, List.forall_mem_append.mpr ⟨lw_r6, lw_r7⟩⟩⟩⟩⟩⟩
end
section
def RX0 : String := "VectorWays$Changes"
def TX0 : u_T := fun k => match k with
  | 0 => ("VectorWays$Changes", "before", "[LVectorWays$Parts;", true)
  | 1 => ("VectorWays$Changes", "next", "I", false)
  | _ => ("VectorWays$Changes", "size", "I", false)
def tyX0 : Nat → FieldType := fun k => match k with
  | 0 => .array (.object "VectorWays$Parts")
  | 1 => .int
  | _ => .int
abbrev wsX00 : List Cond := u_ws RX0 TX0 3
theorem nmX0 : ∀ a, a < 3 → ∀ b, b < 3 → a ≠ b → (TX0 a).2.1 ≠ (TX0 b).2.1 := by decide +kernel
theorem tyX0_ok : ∀ k, k < 3 → parseFieldDescriptor (TX0 k).2.2.1 = some (tyX0 k) := by decide +kernel
abbrev cX0_init : ByteArray := prog_2_method_1_code
def yX0_init : MethodName := ⟨RX0, "<init>", "()V"⟩
abbrev cX0_remember : ByteArray := prog_2_method_2_code
def yX0_remember : MethodName := ⟨RX0, "remember", "(LVectorWays$Parts;)V"⟩
abbrev cX0_takeBack : ByteArray := prog_2_method_3_code
def yX0_takeBack : MethodName := ⟨RX0, "takeBack", "(LVectorWays$Parts;)Z"⟩
abbrev cX0_forget : ByteArray := prog_2_method_4_code
def yX0_forget : MethodName := ⟨RX0, "forget", "()V"⟩
abbrev cX0_slotAt : ByteArray := prog_2_method_5_code
def yX0_slotAt : MethodName := ⟨RX0, "slotAt", "(I)LVectorWays$Parts;"⟩
def RX1 : String := "VectorWays$Fan"
def TX1 : u_T := fun k => match k with
  | 0 => ("VectorWays$Fan", "across", "[I", true)
  | 1 => ("VectorWays$Fan", "up", "[I", true)
  | 2 => ("VectorWays$Fan", "members", "[I", true)
  | 3 => ("VectorWays$Fan", "rayOf", "[I", true)
  | 4 => ("VectorWays$Fan", "rays", "I", false)
  | _ => ("VectorWays$Fan", "period", "I", false)
def tyX1 : Nat → FieldType := fun k => match k with
  | 0 => .array .int
  | 1 => .array .int
  | 2 => .array .int
  | 3 => .array .int
  | 4 => .int
  | _ => .int
abbrev wsX10 : List Cond := u_ws RX1 TX1 6
theorem nmX1 : ∀ a, a < 6 → ∀ b, b < 6 → a ≠ b → (TX1 a).2.1 ≠ (TX1 b).2.1 := by decide +kernel
theorem tyX1_ok : ∀ k, k < 6 → parseFieldDescriptor (TX1 k).2.2.1 = some (tyX1 k) := by decide +kernel
abbrev cX1_init : ByteArray := prog_3_method_1_code
def yX1_init : MethodName := ⟨RX1, "<init>", "()V"⟩
abbrev cX1_hasRay : ByteArray := prog_3_method_2_code
def yX1_hasRay : MethodName := ⟨RX1, "hasRay", "(I)Z"⟩
abbrev cX1_chambers : ByteArray := prog_3_method_3_code
def yX1_chambers : MethodName := ⟨RX1, "chambers", "()I"⟩
abbrev cX1_hasFormulas : ByteArray := prog_3_method_4_code
def yX1_hasFormulas : MethodName := ⟨RX1, "hasFormulas", "()Z"⟩
abbrev cX1_spread : ByteArray := prog_3_method_5_code
def yX1_spread : MethodName := ⟨RX1, "spread", "(LVectorWays$Parts;)V"⟩
abbrev cX1_addRay : ByteArray := prog_3_method_6_code
def yX1_addRay : MethodName := ⟨RX1, "addRay", "(II)V"⟩
abbrev cX1_rayTowards : ByteArray := prog_3_method_7_code
def yX1_rayTowards : MethodName := ⟨RX1, "rayTowards", "(II)I"⟩
abbrev cX1_findPeriod : ByteArray := prog_3_method_8_code
def yX1_findPeriod : MethodName := ⟨RX1, "findPeriod", "(LVectorWays$Parts;)V"⟩
abbrev cX1_size : ByteArray := prog_3_method_9_code
def yX1_size : MethodName := ⟨RX1, "size", "(I)I"⟩
abbrev cX1_firstSpan : ByteArray := prog_3_method_10_code
def yX1_firstSpan : MethodName := ⟨RX1, "firstSpan", "(III)I"⟩
abbrev cX1_secondSpan : ByteArray := prog_3_method_11_code
def yX1_secondSpan : MethodName := ⟨RX1, "secondSpan", "(III)I"⟩
abbrev cX1_turn : ByteArray := prog_3_method_12_code
def yX1_turn : MethodName := ⟨RX1, "turn", "(IIII)I"⟩
abbrev cX1_commonDivisor : ByteArray := prog_3_method_13_code
def yX1_commonDivisor : MethodName := ⟨RX1, "commonDivisor", "(II)I"⟩
abbrev cX1_commonMultiple : ByteArray := prog_3_method_14_code
def yX1_commonMultiple : MethodName := ⟨RX1, "commonMultiple", "(II)I"⟩
def RX2 : String := "VectorWays$Folder"
def TX2 : u_T := fun k => match k with
  | _ => ("VectorWays$Folder", "cells", "[J", true)
def tyX2 : Nat → FieldType := fun k => match k with
  | _ => .array .long
abbrev wsX20 : List Cond := u_ws RX2 TX2 1
theorem nmX2 : ∀ a, a < 1 → ∀ b, b < 1 → a ≠ b → (TX2 a).2.1 ≠ (TX2 b).2.1 := by decide +kernel
theorem tyX2_ok : ∀ k, k < 1 → parseFieldDescriptor (TX2 k).2.2.1 = some (tyX2 k) := by decide +kernel
abbrev cX2_init : ByteArray := prog_4_method_1_code
def yX2_init : MethodName := ⟨RX2, "<init>", "()V"⟩
abbrev cX2_folded : ByteArray := prog_4_method_2_code
def yX2_folded : MethodName := ⟨RX2, "folded", "(IIILVectorWays$Parts;)J"⟩
abbrev cX2_foldedWith : ByteArray := prog_4_method_3_code
def yX2_foldedWith : MethodName := ⟨RX2, "foldedWith", "(IIIILVectorWays$Parts;)J"⟩
abbrev cX2_joined : ByteArray := prog_4_method_4_code
def yX2_joined : MethodName := ⟨RX2, "joined", "(IJJ)J"⟩
abbrev cX2_product : ByteArray := prog_4_method_5_code
def yX2_product : MethodName := ⟨RX2, "product", "(JJ)J"⟩
abbrev cX2_set : ByteArray := prog_4_method_6_code
def yX2_set : MethodName := ⟨RX2, "set", "(IIJ)V"⟩
abbrev cX2_at : ByteArray := prog_4_method_7_code
def yX2_at : MethodName := ⟨RX2, "at", "(II)J"⟩
def RX3 : String := "VectorWays$Formulas"
def TX3 : u_T := fun k => match k with
  | 0 => ("VectorWays$Formulas", "differences", "[J", true)
  | 1 => ("VectorWays$Formulas", "homeX", "I", false)
  | 2 => ("VectorWays$Formulas", "homeY", "I", false)
  | 3 => ("VectorWays$Formulas", "i", "I", false)
  | 4 => ("VectorWays$Formulas", "j", "I", false)
  | 5 => ("VectorWays$Formulas", "firstX", "I", false)
  | 6 => ("VectorWays$Formulas", "firstY", "I", false)
  | 7 => ("VectorWays$Formulas", "secondX", "I", false)
  | _ => ("VectorWays$Formulas", "secondY", "I", false)
def tyX3 : Nat → FieldType := fun k => match k with
  | 0 => .array .long
  | 1 => .int
  | 2 => .int
  | 3 => .int
  | 4 => .int
  | 5 => .int
  | 6 => .int
  | 7 => .int
  | _ => .int
abbrev wsX30 : List Cond := u_ws RX3 TX3 9
theorem nmX3 : ∀ a, a < 9 → ∀ b, b < 9 → a ≠ b → (TX3 a).2.1 ≠ (TX3 b).2.1 := by decide +kernel
theorem tyX3_ok : ∀ k, k < 9 → parseFieldDescriptor (TX3 k).2.2.1 = some (tyX3 k) := by decide +kernel
abbrev cX3_init : ByteArray := prog_5_method_1_code
def yX3_init : MethodName := ⟨RX3, "<init>", "()V"⟩
abbrev cX3_locate : ByteArray := prog_5_method_2_code
def yX3_locate : MethodName := ⟨RX3, "locate", "(LVectorWays$Fan;III)V"⟩
abbrev cX3_farX : ByteArray := prog_5_method_3_code
def yX3_farX : MethodName := ⟨RX3, "farX", "(I)I"⟩
abbrev cX3_farY : ByteArray := prog_5_method_4_code
def yX3_farY : MethodName := ⟨RX3, "farY", "(I)I"⟩
abbrev cX3_readDifferences : ByteArray := prog_5_method_5_code
def yX3_readDifferences : MethodName := ⟨RX3, "readDifferences", "(ILVectorWays$FreeTable;)V"⟩
abbrev cX3_told : ByteArray := prog_5_method_6_code
def yX3_told : MethodName := ⟨RX3, "told", "(ILVectorWays$FreeTable;)J"⟩
abbrev cX3_chooseNext : ByteArray := prog_5_method_7_code
def yX3_chooseNext : MethodName := ⟨RX3, "chooseNext", "(JII)J"⟩
abbrev cX3_set : ByteArray := prog_5_method_8_code
def yX3_set : MethodName := ⟨RX3, "set", "(IIJ)V"⟩
abbrev cX3_differenceAt : ByteArray := prog_5_method_9_code
def yX3_differenceAt : MethodName := ⟨RX3, "differenceAt", "(II)J"⟩
def RX4 : String := "VectorWays$FreeTable"
def TX4 : u_T := fun k => match k with
  | 0 => ("VectorWays$FreeTable", "cells", "[J", true)
  | 1 => ("VectorWays$FreeTable", "knownX", "I", false)
  | _ => ("VectorWays$FreeTable", "knownY", "I", false)
def tyX4 : Nat → FieldType := fun k => match k with
  | 0 => .array .long
  | 1 => .int
  | _ => .int
abbrev wsX40 : List Cond := u_ws RX4 TX4 3
theorem nmX4 : ∀ a, a < 3 → ∀ b, b < 3 → a ≠ b → (TX4 a).2.1 ≠ (TX4 b).2.1 := by decide +kernel
theorem tyX4_ok : ∀ k, k < 3 → parseFieldDescriptor (TX4 k).2.2.1 = some (tyX4 k) := by decide +kernel
abbrev cX4_init : ByteArray := prog_6_method_1_code
def yX4_init : MethodName := ⟨RX4, "<init>", "()V"⟩
abbrev cX4_forget : ByteArray := prog_6_method_2_code
def yX4_forget : MethodName := ⟨RX4, "forget", "()V"⟩
abbrev cX4_reach : ByteArray := prog_6_method_3_code
def yX4_reach : MethodName := ⟨RX4, "reach", "(IILVectorWays$Parts;)V"⟩
abbrev cX4_begin : ByteArray := prog_6_method_4_code
def yX4_begin : MethodName := ⟨RX4, "begin", "()V"⟩
abbrev cX4_add : ByteArray := prog_6_method_5_code
def yX4_add : MethodName := ⟨RX4, "add", "(II)V"⟩
abbrev cX4_at : ByteArray := prog_6_method_6_code
def yX4_at : MethodName := ⟨RX4, "at", "(II)J"⟩
abbrev cX4_atWith : ByteArray := prog_6_method_7_code
def yX4_atWith : MethodName := ⟨RX4, "atWith", "(IIII)J"⟩
def RX5 : String := "VectorWays$Parts"
def TX5 : u_T := fun k => match k with
  | 0 => ("VectorWays$Parts", "across", "[I", true)
  | 1 => ("VectorWays$Parts", "up", "[I", true)
  | 2 => ("VectorWays$Parts", "weight", "[I", true)
  | 3 => ("VectorWays$Parts", "letting", "[J", true)
  | _ => ("VectorWays$Parts", "count", "I", false)
def tyX5 : Nat → FieldType := fun k => match k with
  | 0 => .array .int
  | 1 => .array .int
  | 2 => .array .int
  | 3 => .array .long
  | _ => .int
abbrev wsX50 : List Cond := u_ws RX5 TX5 5
theorem nmX5 : ∀ a, a < 5 → ∀ b, b < 5 → a ≠ b → (TX5 a).2.1 ≠ (TX5 b).2.1 := by decide +kernel
theorem tyX5_ok : ∀ k, k < 5 → parseFieldDescriptor (TX5 k).2.2.1 = some (tyX5 k) := by decide +kernel
abbrev cX5_init : ByteArray := prog_7_method_1_code
def yX5_init : MethodName := ⟨RX5, "<init>", "()V"⟩
abbrev cX5_has : ByteArray := prog_7_method_2_code
def yX5_has : MethodName := ⟨RX5, "has", "(I)Z"⟩
abbrev cX5_add : ByteArray := prog_7_method_3_code
def yX5_add : MethodName := ⟨RX5, "add", "(II)V"⟩
abbrev cX5_become : ByteArray := prog_7_method_4_code
def yX5_become : MethodName := ⟨RX5, "become", "(LVectorWays$Parts;)V"⟩
abbrev cX5_allows : ByteArray := prog_7_method_5_code
def yX5_allows : MethodName := ⟨RX5, "allows", "(II)Z"⟩
abbrev cX5_acrossTogether : ByteArray := prog_7_method_6_code
def yX5_acrossTogether : MethodName := ⟨RX5, "acrossTogether", "()I"⟩
abbrev cX5_upTogether : ByteArray := prog_7_method_7_code
def yX5_upTogether : MethodName := ⟨RX5, "upTogether", "()I"⟩
def RX6 : String := "VectorWays$RuleReader"
def TX6 : u_T := fun k => match k with
  | 0 => ("VectorWays$RuleReader", "alternatives", "[J", true)
  | 1 => ("VectorWays$RuleReader", "together", "[J", true)
  | 2 => ("VectorWays$RuleReader", "denied", "[Z", true)
  | 3 => ("VectorWays$RuleReader", "open", "I", false)
  | 4 => ("VectorWays$RuleReader", "state", "I", false)
  | 5 => ("VectorWays$RuleReader", "test", "I", false)
  | _ => ("VectorWays$RuleReader", "answer", "J", false)
def tyX6 : Nat → FieldType := fun k => match k with
  | 0 => .array .long
  | 1 => .array .long
  | 2 => .array .boolean
  | 3 => .int
  | 4 => .int
  | 5 => .int
  | _ => .long
abbrev wsX60 : List Cond := u_ws RX6 TX6 7
theorem nmX6 : ∀ a, a < 7 → ∀ b, b < 7 → a ≠ b → (TX6 a).2.1 ≠ (TX6 b).2.1 := by decide +kernel
theorem tyX6_ok : ∀ k, k < 7 → parseFieldDescriptor (TX6 k).2.2.1 = some (tyX6 k) := by decide +kernel
abbrev cX6_init : ByteArray := prog_8_method_1_code
def yX6_init : MethodName := ⟨RX6, "<init>", "()V"⟩
abbrev cX6_faultIn : ByteArray := prog_8_method_2_code
def yX6_faultIn : MethodName := ⟨RX6, "faultIn", "(LVectorWays$Tape;)I"⟩
abbrev cX6_ends : ByteArray := prog_8_method_3_code
def yX6_ends : MethodName := ⟨RX6, "ends", "()Z"⟩
abbrev cX6_takes : ByteArray := prog_8_method_4_code
def yX6_takes : MethodName := ⟨RX6, "takes", "(LVectorWays$Tape;I)Z"⟩
abbrev cX6_takesBeginning : ByteArray := prog_8_method_5_code
def yX6_takesBeginning : MethodName := ⟨RX6, "takesBeginning", "(LVectorWays$Tape;)Z"⟩
abbrev cX6_takesTest : ByteArray := prog_8_method_6_code
def yX6_takesTest : MethodName := ⟨RX6, "takesTest", "(LVectorWays$Tape;)Z"⟩
abbrev cX6_takesNumber : ByteArray := prog_8_method_7_code
def yX6_takesNumber : MethodName := ⟨RX6, "takesNumber", "(I)Z"⟩
abbrev cX6_takesJoint : ByteArray := prog_8_method_8_code
def yX6_takesJoint : MethodName := ⟨RX6, "takesJoint", "(LVectorWays$Tape;)Z"⟩
abbrev cX6_isLevel : ByteArray := prog_8_method_9_code
def yX6_isLevel : MethodName := ⟨RX6, "isLevel", "()Z"⟩
abbrev cX6_soFar : ByteArray := prog_8_method_10_code
def yX6_soFar : MethodName := ⟨RX6, "soFar", "()J"⟩
abbrev cX6_begin : ByteArray := prog_8_method_11_code
def yX6_begin : MethodName := ⟨RX6, "begin", "(J)V"⟩
abbrev cX6_deny : ByteArray := prog_8_method_12_code
def yX6_deny : MethodName := ⟨RX6, "deny", "()V"⟩
abbrev cX6_hold : ByteArray := prog_8_method_13_code
def yX6_hold : MethodName := ⟨RX6, "hold", "(J)V"⟩
abbrev cX6_setOf : ByteArray := prog_8_method_14_code
def yX6_setOf : MethodName := ⟨RX6, "setOf", "(I)J"⟩
abbrev cX6_passes : ByteArray := prog_8_method_15_code
def yX6_passes : MethodName := ⟨RX6, "passes", "(II)Z"⟩
def RX7 : String := "VectorWays$Sheet"
def TX7 : u_T := fun k => match k with
  | 0 => ("VectorWays$Sheet", "values", "[J", true)
  | 1 => ("VectorWays$Sheet", "sort", "I", false)
  | _ => ("VectorWays$Sheet", "size", "I", false)
def tyX7 : Nat → FieldType := fun k => match k with
  | 0 => .array .long
  | 1 => .int
  | _ => .int
abbrev wsX70 : List Cond := u_ws RX7 TX7 3
theorem nmX7 : ∀ a, a < 3 → ∀ b, b < 3 → a ≠ b → (TX7 a).2.1 ≠ (TX7 b).2.1 := by decide +kernel
theorem tyX7_ok : ∀ k, k < 3 → parseFieldDescriptor (TX7 k).2.2.1 = some (tyX7 k) := by decide +kernel
abbrev cX7_init : ByteArray := prog_9_method_1_code
def yX7_init : MethodName := ⟨RX7, "<init>", "()V"⟩
abbrev cX7_become : ByteArray := prog_9_method_2_code
def yX7_become : MethodName := ⟨RX7, "become", "(II)V"⟩
abbrev cX7_hasPlace : ByteArray := prog_9_method_3_code
def yX7_hasPlace : MethodName := ⟨RX7, "hasPlace", "(I)Z"⟩
abbrev cX7_cut : ByteArray := prog_9_method_4_code
def yX7_cut : MethodName := ⟨RX7, "cut", "(J)J"⟩
abbrev cX7_greatest : ByteArray := prog_9_method_5_code
def yX7_greatest : MethodName := ⟨RX7, "greatest", "()J"⟩
abbrev cX7_lastUp : ByteArray := prog_9_method_6_code
def yX7_lastUp : MethodName := ⟨RX7, "lastUp", "(I)I"⟩
def RX8 : String := "VectorWays$Tape"
def TX8 : u_T := fun k => match k with
  | 0 => ("VectorWays$Tape", "bytes", "[B", true)
  | 1 => ("VectorWays$Tape", "count", "I", false)
  | 2 => ("VectorWays$Tape", "start", "I", false)
  | _ => ("VectorWays$Tape", "end", "I", false)
def tyX8 : Nat → FieldType := fun k => match k with
  | 0 => .array .byte
  | 1 => .int
  | 2 => .int
  | _ => .int
abbrev wsX80 : List Cond := u_ws RX8 TX8 4
theorem nmX8 : ∀ a, a < 4 → ∀ b, b < 4 → a ≠ b → (TX8 a).2.1 ≠ (TX8 b).2.1 := by decide +kernel
theorem tyX8_ok : ∀ k, k < 4 → parseFieldDescriptor (TX8 k).2.2.1 = some (tyX8 k) := by decide +kernel
abbrev cX8_init : ByteArray := prog_10_method_1_code
def yX8_init : MethodName := ⟨RX8, "<init>", "()V"⟩
abbrev cX8_take : ByteArray := prog_10_method_2_code
def yX8_take : MethodName := ⟨RX8, "take", "(B)V"⟩
abbrev cX8_clear : ByteArray := prog_10_method_3_code
def yX8_clear : MethodName := ⟨RX8, "clear", "()V"⟩
abbrev cX8_rewind : ByteArray := prog_10_method_4_code
def yX8_rewind : MethodName := ⟨RX8, "rewind", "()V"⟩
abbrev cX8_nextSort : ByteArray := prog_10_method_5_code
def yX8_nextSort : MethodName := ⟨RX8, "nextSort", "()I"⟩
abbrev cX8_sortAt : ByteArray := prog_10_method_6_code
def yX8_sortAt : MethodName := ⟨RX8, "sortAt", "(I)I"⟩
abbrev cX8_byteAt : ByteArray := prog_10_method_7_code
def yX8_byteAt : MethodName := ⟨RX8, "byteAt", "(I)I"⟩
abbrev cX8_spells : ByteArray := prog_10_method_8_code
def yX8_spells : MethodName := ⟨RX8, "spells", "(Ljava/lang/String;)Z"⟩
abbrev cX8_number : ByteArray := prog_10_method_9_code
def yX8_number : MethodName := ⟨RX8, "number", "()I"⟩
def RX9 : String := "VectorWays$WaysTable"
def TX9 : u_T := fun k => match k with
  | 0 => ("VectorWays$WaysTable", "cells", "[J", true)
  | 1 => ("VectorWays$WaysTable", "knownX", "I", false)
  | _ => ("VectorWays$WaysTable", "knownY", "I", false)
def tyX9 : Nat → FieldType := fun k => match k with
  | 0 => .array .long
  | 1 => .int
  | _ => .int
abbrev wsX90 : List Cond := u_ws RX9 TX9 3
theorem nmX9 : ∀ a, a < 3 → ∀ b, b < 3 → a ≠ b → (TX9 a).2.1 ≠ (TX9 b).2.1 := by decide +kernel
theorem tyX9_ok : ∀ k, k < 3 → parseFieldDescriptor (TX9 k).2.2.1 = some (tyX9 k) := by decide +kernel
abbrev cX9_init : ByteArray := prog_11_method_1_code
def yX9_init : MethodName := ⟨RX9, "<init>", "()V"⟩
abbrev cX9_forget : ByteArray := prog_11_method_2_code
def yX9_forget : MethodName := ⟨RX9, "forget", "()V"⟩
abbrev cX9_reach : ByteArray := prog_11_method_3_code
def yX9_reach : MethodName := ⟨RX9, "reach", "(IILVectorWays$Parts;)V"⟩
abbrev cX9_counted : ByteArray := prog_11_method_4_code
def yX9_counted : MethodName := ⟨RX9, "counted", "(IIILVectorWays$Parts;)J"⟩
abbrev cX9_set : ByteArray := prog_11_method_5_code
def yX9_set : MethodName := ⟨RX9, "set", "(IIIJ)V"⟩
abbrev cX9_at : ByteArray := prog_11_method_6_code
def yX9_at : MethodName := ⟨RX9, "at", "(III)J"⟩
abbrev cX9_taken : ByteArray := prog_11_method_7_code
def yX9_taken : MethodName := ⟨RX9, "taken", "(IIIILVectorWays$Parts;)I"⟩
abbrev cX9_through : ByteArray := prog_11_method_8_code
def yX9_through : MethodName := ⟨RX9, "through", "(IIIILVectorWays$Parts;)J"⟩
def RX10 : String := "VectorWays"
def TX10 : u_T := fun k => match k with
  | 0 => ("VectorWays", "parts", "LVectorWays$Parts;", true)
  | 1 => ("VectorWays", "kept", "LVectorWays$Parts;", true)
  | 2 => ("VectorWays", "changes", "LVectorWays$Changes;", true)
  | 3 => ("VectorWays", "tape", "LVectorWays$Tape;", true)
  | 4 => ("VectorWays", "reader", "LVectorWays$RuleReader;", true)
  | 5 => ("VectorWays", "fan", "LVectorWays$Fan;", true)
  | 6 => ("VectorWays", "freeTable", "LVectorWays$FreeTable;", true)
  | 7 => ("VectorWays", "waysTable", "LVectorWays$WaysTable;", true)
  | 8 => ("VectorWays", "folder", "LVectorWays$Folder;", true)
  | 9 => ("VectorWays", "formulas", "LVectorWays$Formulas;", true)
  | 10 => ("VectorWays", "sheets", "[LVectorWays$Sheet;", true)
  | 11 => ("VectorWays", "isKept", "Z", false)
  | 12 => ("VectorWays", "keptZ", "I", false)
  | _ => ("VectorWays", "z", "I", false)
def tyX10 : Nat → FieldType := fun k => match k with
  | 0 => .object "VectorWays$Parts"
  | 1 => .object "VectorWays$Parts"
  | 2 => .object "VectorWays$Changes"
  | 3 => .object "VectorWays$Tape"
  | 4 => .object "VectorWays$RuleReader"
  | 5 => .object "VectorWays$Fan"
  | 6 => .object "VectorWays$FreeTable"
  | 7 => .object "VectorWays$WaysTable"
  | 8 => .object "VectorWays$Folder"
  | 9 => .object "VectorWays$Formulas"
  | 10 => .array (.object "VectorWays$Sheet")
  | 11 => .boolean
  | 12 => .int
  | _ => .int
abbrev wsX100 : List Cond := u_ws RX10 TX10 14
theorem nmX10 : ∀ a, a < 14 → ∀ b, b < 14 → a ≠ b → (TX10 a).2.1 ≠ (TX10 b).2.1 := by decide +kernel
theorem tyX10_ok : ∀ k, k < 14 → parseFieldDescriptor (TX10 k).2.2.1 = some (tyX10 k) := by decide +kernel
abbrev cX10_init : ByteArray := prog_1_method_1_code
def yX10_init : MethodName := ⟨RX10, "<init>", "()V"⟩
abbrev cX10_part : ByteArray := prog_1_method_2_code
def yX10_part : MethodName := ⟨RX10, "part", "(II)I"⟩
abbrev cX10_arc : ByteArray := prog_1_method_3_code
def yX10_arc : MethodName := ⟨RX10, "arc", "(II)I"⟩
abbrev cX10_drop : ByteArray := prog_1_method_4_code
def yX10_drop : MethodName := ⟨RX10, "drop", "()I"⟩
abbrev cX10_weigh : ByteArray := prog_1_method_5_code
def yX10_weigh : MethodName := ⟨RX10, "weigh", "(II)I"⟩
abbrev cX10_partOf : ByteArray := prog_1_method_6_code
def yX10_partOf : MethodName := ⟨RX10, "partOf", "(II)I"⟩
abbrev cX10_feed : ByteArray := prog_1_method_7_code
def yX10_feed : MethodName := ⟨RX10, "feed", "(JI)I"⟩
abbrev cX10_rule : ByteArray := prog_1_method_8_code
def yX10_rule : MethodName := ⟨RX10, "rule", "(I)I"⟩
abbrev cX10_lets : ByteArray := prog_1_method_9_code
def yX10_lets : MethodName := ⟨RX10, "lets", "(II)I"⟩
abbrev cX10_undo : ByteArray := prog_1_method_10_code
def yX10_undo : MethodName := ⟨RX10, "undo", "()I"⟩
abbrev cX10_ways : ByteArray := prog_1_method_11_code
def yX10_ways : MethodName := ⟨RX10, "ways", "(II)J"⟩
abbrev cX10_free : ByteArray := prog_1_method_12_code
def yX10_free : MethodName := ⟨RX10, "free", "(II)J"⟩
abbrev cX10_strict : ByteArray := prog_1_method_13_code
def yX10_strict : MethodName := ⟨RX10, "strict", "(II)J"⟩
abbrev cX10_way : ByteArray := prog_1_method_14_code
def yX10_way : MethodName := ⟨RX10, "way", "(IIII)I"⟩
abbrev cX10_fold : ByteArray := prog_1_method_15_code
def yX10_fold : MethodName := ⟨RX10, "fold", "(III)J"⟩
abbrev cX10_ray : ByteArray := prog_1_method_16_code
def yX10_ray : MethodName := ⟨RX10, "ray", "(II)I"⟩
abbrev cX10_period : ByteArray := prog_1_method_17_code
def yX10_period : MethodName := ⟨RX10, "period", "()I"⟩
abbrev cX10_unit : ByteArray := prog_1_method_18_code
def yX10_unit : MethodName := ⟨RX10, "unit", "()I"⟩
abbrev cX10_chamberOf : ByteArray := prog_1_method_19_code
def yX10_chamberOf : MethodName := ⟨RX10, "chamberOf", "(II)I"⟩
abbrev cX10_home : ByteArray := prog_1_method_20_code
def yX10_home : MethodName := ⟨RX10, "home", "(IIII)I"⟩
abbrev cX10_difference : ByteArray := prog_1_method_21_code
def yX10_difference : MethodName := ⟨RX10, "difference", "(IIIII)J"⟩
abbrev cX10_formula : ByteArray := prog_1_method_22_code
def yX10_formula : MethodName := ⟨RX10, "formula", "(III)J"⟩
abbrev cX10_agrees : ByteArray := prog_1_method_23_code
def yX10_agrees : MethodName := ⟨RX10, "agrees", "(II)I"⟩
abbrev cX10_sheet : ByteArray := prog_1_method_24_code
def yX10_sheet : MethodName := ⟨RX10, "sheet", "(III)I"⟩
abbrev cX10_put : ByteArray := prog_1_method_25_code
def yX10_put : MethodName := ⟨RX10, "put", "(IIJ)I"⟩
abbrev cX10_item : ByteArray := prog_1_method_26_code
def yX10_item : MethodName := ⟨RX10, "item", "(III)I"⟩
abbrev cX10_lay : ByteArray := prog_1_method_27_code
def yX10_lay : MethodName := ⟨RX10, "lay", "(II)I"⟩
abbrev cX10_check : ByteArray := prog_1_method_28_code
def yX10_check : MethodName := ⟨RX10, "check", "(II)I"⟩
abbrev cX10_more : ByteArray := prog_1_method_29_code
def yX10_more : MethodName := ⟨RX10, "more", "(III)I"⟩
abbrev cX10_seed : ByteArray := prog_1_method_30_code
def yX10_seed : MethodName := ⟨RX10, "seed", "(I)I"⟩
abbrev cX10_lot : ByteArray := prog_1_method_31_code
def yX10_lot : MethodName := ⟨RX10, "lot", "(I)I"⟩
abbrev cX10_many : ByteArray := prog_1_method_32_code
def yX10_many : MethodName := ⟨RX10, "many", "(I)I"⟩
abbrev cX10_keep : ByteArray := prog_1_method_33_code
def yX10_keep : MethodName := ⟨RX10, "keep", "()I"⟩
abbrev cX10_again : ByteArray := prog_1_method_34_code
def yX10_again : MethodName := ⟨RX10, "again", "()I"⟩
abbrev cX10_isStep : ByteArray := prog_1_method_35_code
def yX10_isStep : MethodName := ⟨RX10, "isStep", "(II)Z"⟩
abbrev cX10_isPoint : ByteArray := prog_1_method_36_code
def yX10_isPoint : MethodName := ⟨RX10, "isPoint", "(III)Z"⟩
abbrev cX10_isSpot : ByteArray := prog_1_method_37_code
def yX10_isSpot : MethodName := ⟨RX10, "isSpot", "(II)Z"⟩
abbrev cX10_comes : ByteArray := prog_1_method_38_code
def yX10_comes : MethodName := ⟨RX10, "comes", "(II)I"⟩
abbrev cX10_partsChanged : ByteArray := prog_1_method_39_code
def yX10_partsChanged : MethodName := ⟨RX10, "partsChanged", "()V"⟩
abbrev cX10_hasFormula : ByteArray := prog_1_method_40_code
def yX10_hasFormula : MethodName := ⟨RX10, "hasFormula", "(I)Z"⟩
abbrev cX10_readyFormula : ByteArray := prog_1_method_41_code
def yX10_readyFormula : MethodName := ⟨RX10, "readyFormula", "(III)V"⟩
abbrev cX10_sheetAt : ByteArray := prog_1_method_42_code
def yX10_sheetAt : MethodName := ⟨RX10, "sheetAt", "(I)LVectorWays$Sheet;"⟩
abbrev cX10_tableRefusal : ByteArray := prog_1_method_43_code
def yX10_tableRefusal : MethodName := ⟨RX10, "tableRefusal", "(LVectorWays$Sheet;I)I"⟩
abbrev cX10_waysAtPlace : ByteArray := prog_1_method_44_code
def yX10_waysAtPlace : MethodName := ⟨RX10, "waysAtPlace", "(II)J"⟩
abbrev cX10_isTableWith : ByteArray := prog_1_method_45_code
def yX10_isTableWith : MethodName := ⟨RX10, "isTableWith", "(LVectorWays$Sheet;III)Z"⟩
abbrev cX10_drawn : ByteArray := prog_1_method_46_code
def yX10_drawn : MethodName := ⟨RX10, "drawn", "()I"⟩
def RX11 : String := "VectorWaysModel"
def TX11 : u_T := fun k => match k with
  | 0 => ("VectorWaysModel", "many", "I", false)
  | 1 => ("VectorWaysModel", "z", "I", false)
  | 2 => ("VectorWaysModel", "keptMany", "I", false)
  | 3 => ("VectorWaysModel", "keptZ", "I", false)
  | 4 => ("VectorWaysModel", "across", "[I", true)
  | 5 => ("VectorWaysModel", "up", "[I", true)
  | 6 => ("VectorWaysModel", "weight", "[I", true)
  | 7 => ("VectorWaysModel", "rules", "[J", true)
  | 8 => ("VectorWaysModel", "keptAcross", "[I", true)
  | 9 => ("VectorWaysModel", "keptUp", "[I", true)
  | 10 => ("VectorWaysModel", "keptWeight", "[I", true)
  | 11 => ("VectorWaysModel", "keptRules", "[J", true)
  | 12 => ("VectorWaysModel", "isKept", "Z", false)
  | 13 => ("VectorWaysModel", "changed", "[I", true)
  | 14 => ("VectorWaysModel", "changedPart", "[I", true)
  | 15 => ("VectorWaysModel", "wasAcross", "[I", true)
  | 16 => ("VectorWaysModel", "wasUp", "[I", true)
  | 17 => ("VectorWaysModel", "wasWeight", "[I", true)
  | 18 => ("VectorWaysModel", "wasRule", "[J", true)
  | 19 => ("VectorWaysModel", "changes", "I", false)
  | 20 => ("VectorWaysModel", "tape", "[I", true)
  | 21 => ("VectorWaysModel", "taped", "I", false)
  | 22 => ("VectorWaysModel", "from", "I", false)
  | 23 => ("VectorWaysModel", "to", "I", false)
  | 24 => ("VectorWaysModel", "isWrong", "Z", false)
  | 25 => ("VectorWaysModel", "behind", "[J", true)
  | 26 => ("VectorWaysModel", "frees", "[J", true)
  | 27 => ("VectorWaysModel", "freeX", "I", false)
  | 28 => ("VectorWaysModel", "freeY", "I", false)
  | 29 => ("VectorWaysModel", "rayAcross", "[I", true)
  | 30 => ("VectorWaysModel", "rayUp", "[I", true)
  | 31 => ("VectorWaysModel", "rayMany", "[I", true)
  | 32 => ("VectorWaysModel", "rays", "I", false)
  | 33 => ("VectorWaysModel", "firstX", "I", false)
  | 34 => ("VectorWaysModel", "firstY", "I", false)
  | 35 => ("VectorWaysModel", "lastX", "I", false)
  | 36 => ("VectorWaysModel", "lastY", "I", false)
  | 37 => ("VectorWaysModel", "period", "I", false)
  | 38 => ("VectorWaysModel", "spanS", "I", false)
  | 39 => ("VectorWaysModel", "spanT", "I", false)
  | 40 => ("VectorWaysModel", "size", "I", false)
  | 41 => ("VectorWaysModel", "offI", "I", false)
  | 42 => ("VectorWaysModel", "offJ", "I", false)
  | 43 => ("VectorWaysModel", "homeX", "I", false)
  | 44 => ("VectorWaysModel", "homeY", "I", false)
  | 45 => ("VectorWaysModel", "sorts", "[I", true)
  | 46 => ("VectorWaysModel", "sizes", "[I", true)
  | _ => ("VectorWaysModel", "cells", "[J", true)
def tyX11 : Nat → FieldType := fun k => match k with
  | 0 => .int
  | 1 => .int
  | 2 => .int
  | 3 => .int
  | 4 => .array .int
  | 5 => .array .int
  | 6 => .array .int
  | 7 => .array .long
  | 8 => .array .int
  | 9 => .array .int
  | 10 => .array .int
  | 11 => .array .long
  | 12 => .boolean
  | 13 => .array .int
  | 14 => .array .int
  | 15 => .array .int
  | 16 => .array .int
  | 17 => .array .int
  | 18 => .array .long
  | 19 => .int
  | 20 => .array .int
  | 21 => .int
  | 22 => .int
  | 23 => .int
  | 24 => .boolean
  | 25 => .array .long
  | 26 => .array .long
  | 27 => .int
  | 28 => .int
  | 29 => .array .int
  | 30 => .array .int
  | 31 => .array .int
  | 32 => .int
  | 33 => .int
  | 34 => .int
  | 35 => .int
  | 36 => .int
  | 37 => .int
  | 38 => .int
  | 39 => .int
  | 40 => .int
  | 41 => .int
  | 42 => .int
  | 43 => .int
  | 44 => .int
  | 45 => .array .int
  | 46 => .array .int
  | _ => .array .long
abbrev wsX110 : List Cond := u_ws RX11 TX11 48
theorem nmX11 : ∀ a, a < 48 → ∀ b, b < 48 → a ≠ b → (TX11 a).2.1 ≠ (TX11 b).2.1 := by decide +kernel
theorem tyX11_ok : ∀ k, k < 48 → parseFieldDescriptor (TX11 k).2.2.1 = some (tyX11 k) := by decide +kernel
abbrev cX11_init : ByteArray := prog_13_method_1_code
def yX11_init : MethodName := ⟨RX11, "<init>", "()V"⟩
abbrev cX11_in : ByteArray := prog_13_method_2_code
def yX11_in : MethodName := ⟨RX11, "in", "(III)Z"⟩
abbrev cX11_isPart : ByteArray := prog_13_method_3_code
def yX11_isPart : MethodName := ⟨RX11, "isPart", "(I)Z"⟩
abbrev cX11_changes : ByteArray := prog_13_method_4_code
def yX11_changes : MethodName := ⟨RX11, "changes", "(II)V"⟩
abbrev cX11_comes : ByteArray := prog_13_method_5_code
def yX11_comes : MethodName := ⟨RX11, "comes", "(II)I"⟩
abbrev cX11_part : ByteArray := prog_13_method_6_code
def yX11_part : MethodName := ⟨RX11, "part", "(II)I"⟩
abbrev cX11_arc : ByteArray := prog_13_method_7_code
def yX11_arc : MethodName := ⟨RX11, "arc", "(II)I"⟩
abbrev cX11_drop : ByteArray := prog_13_method_8_code
def yX11_drop : MethodName := ⟨RX11, "drop", "()I"⟩
abbrev cX11_weigh : ByteArray := prog_13_method_9_code
def yX11_weigh : MethodName := ⟨RX11, "weigh", "(II)I"⟩
abbrev cX11_ones : ByteArray := prog_13_method_10_code
def yX11_ones : MethodName := ⟨RX11, "ones", "(J)I"⟩
abbrev cX11_partOf : ByteArray := prog_13_method_11_code
def yX11_partOf : MethodName := ⟨RX11, "partOf", "(II)I"⟩
abbrev cX11_undo : ByteArray := prog_13_method_12_code
def yX11_undo : MethodName := ⟨RX11, "undo", "()I"⟩
abbrev cX11_feed : ByteArray := prog_13_method_13_code
def yX11_feed : MethodName := ⟨RX11, "feed", "(JI)I"⟩
abbrev cX11_isAt : ByteArray := prog_13_method_14_code
def yX11_isAt : MethodName := ⟨RX11, "isAt", "(III)Z"⟩
abbrev cX11_next : ByteArray := prog_13_method_15_code
def yX11_next : MethodName := ⟨RX11, "next", "()V"⟩
abbrev cX11_here : ByteArray := prog_13_method_16_code
def yX11_here : MethodName := ⟨RX11, "here", "()I"⟩
abbrev cX11_takes : ByteArray := prog_13_method_17_code
def yX11_takes : MethodName := ⟨RX11, "takes", "(I)Z"⟩
abbrev cX11_takesSign : ByteArray := prog_13_method_18_code
def yX11_takesSign : MethodName := ⟨RX11, "takesSign", "(I)Z"⟩
abbrev cX11_number : ByteArray := prog_13_method_19_code
def yX11_number : MethodName := ⟨RX11, "number", "(I)I"⟩
abbrev cX11_multiples : ByteArray := prog_13_method_20_code
def yX11_multiples : MethodName := ⟨RX11, "multiples", "(I)J"⟩
abbrev cX11_upTo : ByteArray := prog_13_method_21_code
def yX11_upTo : MethodName := ⟨RX11, "upTo", "(I)J"⟩
abbrev cX11_one : ByteArray := prog_13_method_22_code
def yX11_one : MethodName := ⟨RX11, "one", "(I)J"⟩
abbrev cX11_every : ByteArray := prog_13_method_23_code
def yX11_every : MethodName := ⟨RX11, "every", "(I)J"⟩
abbrev cX11_some : ByteArray := prog_13_method_24_code
def yX11_some : MethodName := ⟨RX11, "some", "(I)J"⟩
abbrev cX11_rule : ByteArray := prog_13_method_25_code
def yX11_rule : MethodName := ⟨RX11, "rule", "(I)I"⟩
abbrev cX11_lets : ByteArray := prog_13_method_26_code
def yX11_lets : MethodName := ⟨RX11, "lets", "(II)I"⟩
abbrev cX11_place : ByteArray := prog_13_method_27_code
def yX11_place : MethodName := ⟨RX11, "place", "(III)I"⟩
abbrev cX11_isPoint : ByteArray := prog_13_method_28_code
def yX11_isPoint : MethodName := ⟨RX11, "isPoint", "(III)Z"⟩
abbrev cX11_count : ByteArray := prog_13_method_29_code
def yX11_count : MethodName := ⟨RX11, "count", "(II)V"⟩
abbrev cX11_ways : ByteArray := prog_13_method_30_code
def yX11_ways : MethodName := ⟨RX11, "ways", "(II)J"⟩
abbrev cX11_addsPart : ByteArray := prog_13_method_31_code
def yX11_addsPart : MethodName := ⟨RX11, "addsPart", "(II)V"⟩
abbrev cX11_countFree : ByteArray := prog_13_method_32_code
def yX11_countFree : MethodName := ⟨RX11, "countFree", "(II)V"⟩
abbrev cX11_freeAt : ByteArray := prog_13_method_33_code
def yX11_freeAt : MethodName := ⟨RX11, "freeAt", "(II)J"⟩
abbrev cX11_free : ByteArray := prog_13_method_34_code
def yX11_free : MethodName := ⟨RX11, "free", "(II)J"⟩
abbrev cX11_strict : ByteArray := prog_13_method_35_code
def yX11_strict : MethodName := ⟨RX11, "strict", "(II)J"⟩
abbrev cX11_way : ByteArray := prog_13_method_36_code
def yX11_way : MethodName := ⟨RX11, "way", "(IIII)I"⟩
abbrev cX11_times : ByteArray := prog_13_method_37_code
def yX11_times : MethodName := ⟨RX11, "times", "(JJ)J"⟩
abbrev cX11_both : ByteArray := prog_13_method_38_code
def yX11_both : MethodName := ⟨RX11, "both", "(IJJ)J"⟩
abbrev cX11_foldAt : ByteArray := prog_13_method_39_code
def yX11_foldAt : MethodName := ⟨RX11, "foldAt", "(IIII)J"⟩
abbrev cX11_fold : ByteArray := prog_13_method_40_code
def yX11_fold : MethodName := ⟨RX11, "fold", "(III)J"⟩
abbrev cX11_common : ByteArray := prog_13_method_41_code
def yX11_common : MethodName := ⟨RX11, "common", "(II)I"⟩
abbrev cX11_det : ByteArray := prog_13_method_42_code
def yX11_det : MethodName := ⟨RX11, "det", "(II)I"⟩
abbrev cX11_findRays : ByteArray := prog_13_method_43_code
def yX11_findRays : MethodName := ⟨RX11, "findRays", "()V"⟩
abbrev cX11_rayOf : ByteArray := prog_13_method_44_code
def yX11_rayOf : MethodName := ⟨RX11, "rayOf", "(I)I"⟩
abbrev cX11_ray : ByteArray := prog_13_method_45_code
def yX11_ray : MethodName := ⟨RX11, "ray", "(II)I"⟩
abbrev cX11_periodNow : ByteArray := prog_13_method_46_code
def yX11_periodNow : MethodName := ⟨RX11, "periodNow", "()I"⟩
abbrev cX11_period : ByteArray := prog_13_method_47_code
def yX11_period : MethodName := ⟨RX11, "period", "()I"⟩
abbrev cX11_unit : ByteArray := prog_13_method_48_code
def yX11_unit : MethodName := ⟨RX11, "unit", "()I"⟩
abbrev cX11_chambers : ByteArray := prog_13_method_49_code
def yX11_chambers : MethodName := ⟨RX11, "chambers", "()I"⟩
abbrev cX11_areFormulas : ByteArray := prog_13_method_50_code
def yX11_areFormulas : MethodName := ⟨RX11, "areFormulas", "()Z"⟩
abbrev cX11_looks : ByteArray := prog_13_method_51_code
def yX11_looks : MethodName := ⟨RX11, "looks", "(III)V"⟩
abbrev cX11_floor : ByteArray := prog_13_method_52_code
def yX11_floor : MethodName := ⟨RX11, "floor", "(II)I"⟩
abbrev cX11_goesHome : ByteArray := prog_13_method_53_code
def yX11_goesHome : MethodName := ⟨RX11, "goesHome", "(III)V"⟩
abbrev cX11_chamberOf : ByteArray := prog_13_method_54_code
def yX11_chamberOf : MethodName := ⟨RX11, "chamberOf", "(II)I"⟩
abbrev cX11_isAsked : ByteArray := prog_13_method_55_code
def yX11_isAsked : MethodName := ⟨RX11, "isAsked", "(III)Z"⟩
abbrev cX11_home : ByteArray := prog_13_method_56_code
def yX11_home : MethodName := ⟨RX11, "home", "(IIII)I"⟩
abbrev cX11_choose : ByteArray := prog_13_method_57_code
def yX11_choose : MethodName := ⟨RX11, "choose", "(II)J"⟩
abbrev cX11_differenceAt : ByteArray := prog_13_method_58_code
def yX11_differenceAt : MethodName := ⟨RX11, "differenceAt", "(II)J"⟩
abbrev cX11_difference : ByteArray := prog_13_method_59_code
def yX11_difference : MethodName := ⟨RX11, "difference", "(IIIII)J"⟩
abbrev cX11_formulaAt : ByteArray := prog_13_method_60_code
def yX11_formulaAt : MethodName := ⟨RX11, "formulaAt", "(III)J"⟩
abbrev cX11_formula : ByteArray := prog_13_method_61_code
def yX11_formula : MethodName := ⟨RX11, "formula", "(III)J"⟩
abbrev cX11_agrees : ByteArray := prog_13_method_62_code
def yX11_agrees : MethodName := ⟨RX11, "agrees", "(II)I"⟩
abbrev cX11_isSheet : ByteArray := prog_13_method_63_code
def yX11_isSheet : MethodName := ⟨RX11, "isSheet", "(I)Z"⟩
abbrev cX11_cut : ByteArray := prog_13_method_64_code
def yX11_cut : MethodName := ⟨RX11, "cut", "(IJ)J"⟩
abbrev cX11_sheet : ByteArray := prog_13_method_65_code
def yX11_sheet : MethodName := ⟨RX11, "sheet", "(III)I"⟩
abbrev cX11_put : ByteArray := prog_13_method_66_code
def yX11_put : MethodName := ⟨RX11, "put", "(IIJ)I"⟩
abbrev cX11_item : ByteArray := prog_13_method_67_code
def yX11_item : MethodName := ⟨RX11, "item", "(III)I"⟩
abbrev cX11_lacks : ByteArray := prog_13_method_68_code
def yX11_lacks : MethodName := ⟨RX11, "lacks", "(II)I"⟩
abbrev cX11_countTable : ByteArray := prog_13_method_69_code
def yX11_countTable : MethodName := ⟨RX11, "countTable", "(II)V"⟩
abbrev cX11_lay : ByteArray := prog_13_method_70_code
def yX11_lay : MethodName := ⟨RX11, "lay", "(II)I"⟩
abbrev cX11_check : ByteArray := prog_13_method_71_code
def yX11_check : MethodName := ⟨RX11, "check", "(II)I"⟩
abbrev cX11_isFree : ByteArray := prog_13_method_72_code
def yX11_isFree : MethodName := ⟨RX11, "isFree", "(II)Z"⟩
abbrev cX11_more : ByteArray := prog_13_method_73_code
def yX11_more : MethodName := ⟨RX11, "more", "(III)I"⟩
abbrev cX11_seed : ByteArray := prog_13_method_74_code
def yX11_seed : MethodName := ⟨RX11, "seed", "(I)I"⟩
abbrev cX11_drawn : ByteArray := prog_13_method_75_code
def yX11_drawn : MethodName := ⟨RX11, "drawn", "()I"⟩
abbrev cX11_lot : ByteArray := prog_13_method_76_code
def yX11_lot : MethodName := ⟨RX11, "lot", "(I)I"⟩
abbrev cX11_many : ByteArray := prog_13_method_77_code
def yX11_many : MethodName := ⟨RX11, "many", "(I)I"⟩
abbrev cX11_keep : ByteArray := prog_13_method_78_code
def yX11_keep : MethodName := ⟨RX11, "keep", "()I"⟩
abbrev cX11_again : ByteArray := prog_13_method_79_code
def yX11_again : MethodName := ⟨RX11, "again", "()I"⟩
def RJ13 : String := "java/lang/Long"
def TJ13 : u_T := fun k => match k with
  | _ => ("", "", "", false)
def tyJ13 : Nat → FieldType := fun k => match k with
  | _ => .int
abbrev wsJ130 : List Cond := u_ws RJ13 TJ13 0
theorem nmJ13 : ∀ a, a < 0 → ∀ b, b < 0 → a ≠ b → (TJ13 a).2.1 ≠ (TJ13 b).2.1 := by decide +kernel
theorem tyJ13_ok : ∀ k, k < 0 → parseFieldDescriptor (TJ13 k).2.2.1 = some (tyJ13 k) := by decide +kernel
abbrev cJ13_bitCount_95d88 : ByteArray := prog_14_method_50_code
def yJ13_bitCount_95d88 : MethodName := ⟨RJ13, "bitCount", "(J)I"⟩
def RJ9 : String := "java/lang/Math"
def TJ9 : u_T := fun k => match k with
  | _ => ("", "", "", false)
def tyJ9 : Nat → FieldType := fun k => match k with
  | _ => .int
abbrev wsJ90 : List Cond := u_ws RJ9 TJ9 0
theorem nmJ9 : ∀ a, a < 0 → ∀ b, b < 0 → a ≠ b → (TJ9 a).2.1 ≠ (TJ9 b).2.1 := by decide +kernel
theorem tyJ9_ok : ∀ k, k < 0 → parseFieldDescriptor (TJ9 k).2.2.1 = some (tyJ9 k) := by decide +kernel
abbrev cJ9_floorDiv_7cf53 : ByteArray := prog_15_method_47_code
def yJ9_floorDiv_7cf53 : MethodName := ⟨RJ9, "floorDiv", "(II)I"⟩
abbrev cJ9_abs_0f7a4 : ByteArray := prog_15_method_59_code
def yJ9_abs_0f7a4 : MethodName := ⟨RJ9, "abs", "(I)I"⟩
abbrev cJ9_max_7cf53 : ByteArray := prog_15_method_65_code
def yJ9_max_7cf53 : MethodName := ⟨RJ9, "max", "(II)I"⟩
abbrev cJ9_max_f86c9 : ByteArray := prog_15_method_66_code
def yJ9_max_f86c9 : MethodName := ⟨RJ9, "max", "(JJ)J"⟩
abbrev cJ9_min_7cf53 : ByteArray := prog_15_method_69_code
def yJ9_min_7cf53 : MethodName := ⟨RJ9, "min", "(II)I"⟩
abbrev cJ9_min_f86c9 : ByteArray := prog_15_method_70_code
def yJ9_min_f86c9 : MethodName := ⟨RJ9, "min", "(JJ)J"⟩
def RJ0 : String := "java/lang/String"
def TJ0 : u_T := fun k => match k with
  | _ => ("", "", "", false)
def tyJ0 : Nat → FieldType := fun k => match k with
  | _ => .int
abbrev wsJ00 : List Cond := u_ws RJ0 TJ0 0
theorem nmJ0 : ∀ a, a < 0 → ∀ b, b < 0 → a ≠ b → (TJ0 a).2.1 ≠ (TJ0 b).2.1 := by decide +kernel
theorem tyJ0_ok : ∀ k, k < 0 → parseFieldDescriptor (TJ0 k).2.2.1 = some (tyJ0 k) := by decide +kernel
abbrev cJ0_length_8abf5 : ByteArray := prog_16_method_54_code
def yJ0_length_8abf5 : MethodName := ⟨RJ0, "length", "()I"⟩
abbrev cJ0_charAt_5068e : ByteArray := prog_16_method_56_code
def yJ0_charAt_5068e : MethodName := ⟨RJ0, "charAt", "(I)C"⟩
abbrev cJ0_coder_7d493 : ByteArray := prog_16_method_152_code
def yJ0_coder_7d493 : MethodName := ⟨RJ0, "coder", "()B"⟩
abbrev cJ0_isLatin1_aae02 : ByteArray := prog_16_method_154_code
def yJ0_isLatin1_aae02 : MethodName := ⟨RJ0, "isLatin1", "()Z"⟩
abbrev cJ0_checkIndex_df160 : ByteArray := prog_16_method_155_code
def yJ0_checkIndex_df160 : MethodName := ⟨RJ0, "checkIndex", "(II)V"⟩
def RJ1 : String := "java/lang/StringLatin1"
def TJ1 : u_T := fun k => match k with
  | _ => ("", "", "", false)
def tyJ1 : Nat → FieldType := fun k => match k with
  | _ => .int
abbrev wsJ10 : List Cond := u_ws RJ1 TJ1 0
theorem nmJ1 : ∀ a, a < 0 → ∀ b, b < 0 → a ≠ b → (TJ1 a).2.1 ≠ (TJ1 b).2.1 := by decide +kernel
theorem tyJ1_ok : ∀ k, k < 0 → parseFieldDescriptor (TJ1 k).2.2.1 = some (tyJ1 k) := by decide +kernel
abbrev cJ1_charAt_3b067 : ByteArray := prog_17_method_2_code
def yJ1_charAt_3b067 : MethodName := ⟨RJ1, "charAt", "([BI)C"⟩
def RJ2 : String := "java/lang/StringUTF16"
def TJ2 : u_T := fun k => match k with
  | _ => ("", "", "", false)
def tyJ2 : Nat → FieldType := fun k => match k with
  | _ => .int
abbrev wsJ20 : List Cond := u_ws RJ2 TJ2 0
theorem nmJ2 : ∀ a, a < 0 → ∀ b, b < 0 → a ≠ b → (TJ2 a).2.1 ≠ (TJ2 b).2.1 := by decide +kernel
theorem tyJ2_ok : ∀ k, k < 0 → parseFieldDescriptor (TJ2 k).2.2.1 = some (tyJ2 k) := by decide +kernel
abbrev cJ2_getChar_3b067 : ByteArray := prog_18_method_5_code
def yJ2_getChar_3b067 : MethodName := ⟨RJ2, "getChar", "([BI)C"⟩
abbrev cJ2_length_9d52b : ByteArray := prog_18_method_6_code
def yJ2_length_9d52b : MethodName := ⟨RJ2, "length", "([B)I"⟩
abbrev cJ2_charAt_3b067 : ByteArray := prog_18_method_83_code
def yJ2_charAt_3b067 : MethodName := ⟨RJ2, "charAt", "([BI)C"⟩
abbrev cJ2_checkIndex_2214a : ByteArray := prog_18_method_91_code
def yJ2_checkIndex_2214a : MethodName := ⟨RJ2, "checkIndex", "(I[B)V"⟩
def RJ7 : String := "java/util/Arrays"
def TJ7 : u_T := fun k => match k with
  | _ => ("", "", "", false)
def tyJ7 : Nat → FieldType := fun k => match k with
  | _ => .int
abbrev wsJ70 : List Cond := u_ws RJ7 TJ7 0
theorem nmJ7 : ∀ a, a < 0 → ∀ b, b < 0 → a ≠ b → (TJ7 a).2.1 ≠ (TJ7 b).2.1 := by decide +kernel
theorem tyJ7_ok : ∀ k, k < 0 → parseFieldDescriptor (TJ7 k).2.2.1 = some (tyJ7 k) := by decide +kernel
abbrev cJ7_fill_d0a16 : ByteArray := prog_19_method_101_code
def yJ7_fill_d0a16 : MethodName := ⟨RJ7, "fill", "([JJ)V"⟩
abbrev cJ7_fill_53178 : ByteArray := prog_19_method_103_code
def yJ7_fill_53178 : MethodName := ⟨RJ7, "fill", "([II)V"⟩
def RJ3 : String := "jdk/internal/util/Preconditions"
def TJ3 : u_T := fun k => match k with
  | _ => ("", "", "", false)
def tyJ3 : Nat → FieldType := fun k => match k with
  | _ => .int
abbrev wsJ30 : List Cond := u_ws RJ3 TJ3 0
theorem nmJ3 : ∀ a, a < 0 → ∀ b, b < 0 → a ≠ b → (TJ3 a).2.1 ≠ (TJ3 b).2.1 := by decide +kernel
theorem tyJ3_ok : ∀ k, k < 0 → parseFieldDescriptor (TJ3 k).2.2.1 = some (tyJ3 k) := by decide +kernel
abbrev cJ3_checkIndex_8e157 : ByteArray := prog_20_method_11_code
def yJ3_checkIndex_8e157 : MethodName := ⟨RJ3, "checkIndex", "(IILjava/util/function/BiFunction;)I"⟩
def RL : String := "VectorWaysLaw"
abbrev cL_law : ByteArray := code
def yL_law : MethodName := ⟨RL, "law", "([I)Z"⟩
abbrev vwCl : List vw_C := [(RX0, TX0, 3), (RX1, TX1, 6), (RX2, TX2, 1), (RX3, TX3, 9), (RX4, TX4, 3), (RX5, TX5, 5), (RX6, TX6, 7), (RX7, TX7, 3), (RX8, TX8, 4), (RX9, TX9, 3), (RX10, TX10, 14), (RX11, TX11, 48)]
end
section
theorem dX0_init_0 : decode cX0_init 0 = .ok (.aload_n 0, 1) := by decide +kernel
theorem dX0_init_1 : decode cX0_init 1 = .ok (.invokespecial 3, 3) := by decide +kernel
theorem dX0_init_4 : decode cX0_init 4 = .ok (.aload_n 0, 1) := by decide +kernel
theorem dX0_init_5 : decode cX0_init 5 = .ok (.bipush 30, 2) := by decide +kernel
theorem dX0_init_7 : decode cX0_init 7 = .ok (.anewarray 9, 3) := by decide +kernel
theorem dX0_init_10 : decode cX0_init 10 = .ok (.putfield 11, 3) := by decide +kernel
theorem dX0_init_13 : decode cX0_init 13 = .ok (.aload_n 0, 1) := by decide +kernel
theorem dX0_init_14 : decode cX0_init 14 = .ok (.iconst 0, 1) := by decide +kernel
theorem dX0_init_15 : decode cX0_init 15 = .ok (.putfield 17, 3) := by decide +kernel
theorem dX0_init_18 : decode cX0_init 18 = .ok (.aload_n 0, 1) := by decide +kernel
theorem dX0_init_19 : decode cX0_init 19 = .ok (.iconst 0, 1) := by decide +kernel
theorem dX0_init_20 : decode cX0_init 20 = .ok (.putfield 21, 3) := by decide +kernel
theorem dX0_init_23 : decode cX0_init 23 = .ok (.iconst 0, 1) := by decide +kernel
theorem dX0_init_24 : decode cX0_init 24 = .ok (.istore_n 1, 1) := by decide +kernel
theorem dX0_init_25 : decode cX0_init 25 = .ok (.iload_n 1, 1) := by decide +kernel
theorem dX0_init_26 : decode cX0_init 26 = .ok (.bipush 30, 2) := by decide +kernel
theorem dX0_init_28 : decode cX0_init 28 = .ok (.if_icmp .ge 22, 3) := by decide +kernel
theorem dX0_init_31 : decode cX0_init 31 = .ok (.aload_n 0, 1) := by decide +kernel
theorem dX0_init_32 : decode cX0_init 32 = .ok (.getfield 11, 3) := by decide +kernel
theorem dX0_init_35 : decode cX0_init 35 = .ok (.iload_n 1, 1) := by decide +kernel
theorem dX0_init_36 : decode cX0_init 36 = .ok (.new 9, 3) := by decide +kernel
theorem dX0_init_39 : decode cX0_init 39 = .ok (.dup, 1) := by decide +kernel
theorem dX0_init_40 : decode cX0_init 40 = .ok (.invokespecial 24, 3) := by decide +kernel
theorem dX0_init_43 : decode cX0_init 43 = .ok (.aastore, 1) := by decide +kernel
theorem dX0_init_44 : decode cX0_init 44 = .ok (.iinc 1 1, 3) := by decide +kernel
theorem dX0_init_47 : decode cX0_init 47 = .ok (.goto (-22), 3) := by decide +kernel
theorem dX0_init_50 : decode cX0_init 50 = .ok (.return_, 1) := by decide +kernel
theorem dX0_remember_0 : decode cX0_remember 0 = .ok (.aload_n 0, 1) := by decide +kernel
theorem dX0_remember_1 : decode cX0_remember 1 = .ok (.aload_n 0, 1) := by decide +kernel
theorem dX0_remember_2 : decode cX0_remember 2 = .ok (.getfield 17, 3) := by decide +kernel
theorem dX0_remember_5 : decode cX0_remember 5 = .ok (.invokevirtual 25, 3) := by decide +kernel
theorem dX0_remember_8 : decode cX0_remember 8 = .ok (.astore_n 2, 1) := by decide +kernel
theorem dX0_remember_9 : decode cX0_remember 9 = .ok (.aload_n 2, 1) := by decide +kernel
theorem dX0_remember_10 : decode cX0_remember 10 = .ok (.ifnonnull 4, 3) := by decide +kernel
theorem dX0_remember_13 : decode cX0_remember 13 = .ok (.return_, 1) := by decide +kernel
theorem dX0_remember_14 : decode cX0_remember 14 = .ok (.aload_n 2, 1) := by decide +kernel
theorem dX0_remember_15 : decode cX0_remember 15 = .ok (.aload_n 1, 1) := by decide +kernel
theorem dX0_remember_16 : decode cX0_remember 16 = .ok (.invokevirtual 29, 3) := by decide +kernel
theorem dX0_remember_19 : decode cX0_remember 19 = .ok (.aload_n 0, 1) := by decide +kernel
theorem dX0_remember_20 : decode cX0_remember 20 = .ok (.aload_n 0, 1) := by decide +kernel
theorem dX0_remember_21 : decode cX0_remember 21 = .ok (.getfield 17, 3) := by decide +kernel
theorem dX0_remember_24 : decode cX0_remember 24 = .ok (.iconst 1, 1) := by decide +kernel
theorem dX0_remember_25 : decode cX0_remember 25 = .ok (.iadd, 1) := by decide +kernel
theorem dX0_remember_26 : decode cX0_remember 26 = .ok (.bipush 30, 2) := by decide +kernel
theorem dX0_remember_28 : decode cX0_remember 28 = .ok (.if_icmp .ge 12, 3) := by decide +kernel
theorem dX0_remember_31 : decode cX0_remember 31 = .ok (.aload_n 0, 1) := by decide +kernel
theorem dX0_remember_32 : decode cX0_remember 32 = .ok (.getfield 17, 3) := by decide +kernel
theorem dX0_remember_35 : decode cX0_remember 35 = .ok (.iconst 1, 1) := by decide +kernel
theorem dX0_remember_36 : decode cX0_remember 36 = .ok (.iadd, 1) := by decide +kernel
theorem dX0_remember_37 : decode cX0_remember 37 = .ok (.goto 4, 3) := by decide +kernel
theorem dX0_remember_40 : decode cX0_remember 40 = .ok (.iconst 0, 1) := by decide +kernel
theorem dX0_remember_41 : decode cX0_remember 41 = .ok (.putfield 17, 3) := by decide +kernel
theorem dX0_remember_44 : decode cX0_remember 44 = .ok (.aload_n 0, 1) := by decide +kernel
theorem dX0_remember_45 : decode cX0_remember 45 = .ok (.aload_n 0, 1) := by decide +kernel
theorem dX0_remember_46 : decode cX0_remember 46 = .ok (.getfield 21, 3) := by decide +kernel
theorem dX0_remember_49 : decode cX0_remember 49 = .ok (.iconst 1, 1) := by decide +kernel
theorem dX0_remember_50 : decode cX0_remember 50 = .ok (.iadd, 1) := by decide +kernel
theorem dX0_remember_51 : decode cX0_remember 51 = .ok (.bipush 30, 2) := by decide +kernel
theorem dX0_remember_53 : decode cX0_remember 53 = .ok (.invokestatic 33, 3) := by decide +kernel
theorem dX0_remember_56 : decode cX0_remember 56 = .ok (.putfield 21, 3) := by decide +kernel
theorem dX0_remember_59 : decode cX0_remember 59 = .ok (.return_, 1) := by decide +kernel
theorem dX0_takeBack_0 : decode cX0_takeBack 0 = .ok (.aload_n 0, 1) := by decide +kernel
theorem dX0_takeBack_1 : decode cX0_takeBack 1 = .ok (.getfield 17, 3) := by decide +kernel
theorem dX0_takeBack_4 : decode cX0_takeBack 4 = .ok (.ifCond .le 12, 3) := by decide +kernel
theorem dX0_takeBack_7 : decode cX0_takeBack 7 = .ok (.aload_n 0, 1) := by decide +kernel
theorem dX0_takeBack_8 : decode cX0_takeBack 8 = .ok (.getfield 17, 3) := by decide +kernel
theorem dX0_takeBack_11 : decode cX0_takeBack 11 = .ok (.iconst 1, 1) := by decide +kernel
theorem dX0_takeBack_12 : decode cX0_takeBack 12 = .ok (.isub, 1) := by decide +kernel
theorem dX0_takeBack_13 : decode cX0_takeBack 13 = .ok (.goto 5, 3) := by decide +kernel
theorem dX0_takeBack_16 : decode cX0_takeBack 16 = .ok (.bipush 29, 2) := by decide +kernel
theorem dX0_takeBack_18 : decode cX0_takeBack 18 = .ok (.istore_n 2, 1) := by decide +kernel
theorem dX0_takeBack_19 : decode cX0_takeBack 19 = .ok (.aload_n 0, 1) := by decide +kernel
theorem dX0_takeBack_20 : decode cX0_takeBack 20 = .ok (.iload_n 2, 1) := by decide +kernel
theorem dX0_takeBack_21 : decode cX0_takeBack 21 = .ok (.invokevirtual 25, 3) := by decide +kernel
theorem dX0_takeBack_24 : decode cX0_takeBack 24 = .ok (.astore_n 3, 1) := by decide +kernel
theorem dX0_takeBack_25 : decode cX0_takeBack 25 = .ok (.aload_n 0, 1) := by decide +kernel
theorem dX0_takeBack_26 : decode cX0_takeBack 26 = .ok (.getfield 21, 3) := by decide +kernel
theorem dX0_takeBack_29 : decode cX0_takeBack 29 = .ok (.iconst 1, 1) := by decide +kernel
theorem dX0_takeBack_30 : decode cX0_takeBack 30 = .ok (.if_icmp .lt 7, 3) := by decide +kernel
theorem dX0_takeBack_33 : decode cX0_takeBack 33 = .ok (.aload_n 3, 1) := by decide +kernel
theorem dX0_takeBack_34 : decode cX0_takeBack 34 = .ok (.ifnonnull 5, 3) := by decide +kernel
theorem dX0_takeBack_37 : decode cX0_takeBack 37 = .ok (.iconst 0, 1) := by decide +kernel
theorem dX0_takeBack_38 : decode cX0_takeBack 38 = .ok (.ireturn, 1) := by decide +kernel
theorem dX0_takeBack_39 : decode cX0_takeBack 39 = .ok (.aload_n 1, 1) := by decide +kernel
theorem dX0_takeBack_40 : decode cX0_takeBack 40 = .ok (.aload_n 3, 1) := by decide +kernel
theorem dX0_takeBack_41 : decode cX0_takeBack 41 = .ok (.invokevirtual 29, 3) := by decide +kernel
theorem dX0_takeBack_44 : decode cX0_takeBack 44 = .ok (.aload_n 0, 1) := by decide +kernel
theorem dX0_takeBack_45 : decode cX0_takeBack 45 = .ok (.iload_n 2, 1) := by decide +kernel
theorem dX0_takeBack_46 : decode cX0_takeBack 46 = .ok (.putfield 17, 3) := by decide +kernel
theorem dX0_takeBack_49 : decode cX0_takeBack 49 = .ok (.aload_n 0, 1) := by decide +kernel
theorem dX0_takeBack_50 : decode cX0_takeBack 50 = .ok (.dup, 1) := by decide +kernel
theorem dX0_takeBack_51 : decode cX0_takeBack 51 = .ok (.getfield 21, 3) := by decide +kernel
theorem dX0_takeBack_54 : decode cX0_takeBack 54 = .ok (.iconst 1, 1) := by decide +kernel
theorem dX0_takeBack_55 : decode cX0_takeBack 55 = .ok (.isub, 1) := by decide +kernel
theorem dX0_takeBack_56 : decode cX0_takeBack 56 = .ok (.putfield 21, 3) := by decide +kernel
theorem dX0_takeBack_59 : decode cX0_takeBack 59 = .ok (.iconst 1, 1) := by decide +kernel
theorem dX0_takeBack_60 : decode cX0_takeBack 60 = .ok (.ireturn, 1) := by decide +kernel
theorem dX0_forget_0 : decode cX0_forget 0 = .ok (.aload_n 0, 1) := by decide +kernel
theorem dX0_forget_1 : decode cX0_forget 1 = .ok (.iconst 0, 1) := by decide +kernel
theorem dX0_forget_2 : decode cX0_forget 2 = .ok (.putfield 21, 3) := by decide +kernel
theorem dX0_forget_5 : decode cX0_forget 5 = .ok (.return_, 1) := by decide +kernel
theorem dX0_slotAt_0 : decode cX0_slotAt 0 = .ok (.iload_n 1, 1) := by decide +kernel
theorem dX0_slotAt_1 : decode cX0_slotAt 1 = .ok (.ifCond .lt 18, 3) := by decide +kernel
theorem dX0_slotAt_4 : decode cX0_slotAt 4 = .ok (.iload_n 1, 1) := by decide +kernel
theorem dX0_slotAt_5 : decode cX0_slotAt 5 = .ok (.bipush 30, 2) := by decide +kernel
theorem dX0_slotAt_7 : decode cX0_slotAt 7 = .ok (.if_icmp .ge 12, 3) := by decide +kernel
theorem dX0_slotAt_10 : decode cX0_slotAt 10 = .ok (.aload_n 0, 1) := by decide +kernel
theorem dX0_slotAt_11 : decode cX0_slotAt 11 = .ok (.getfield 11, 3) := by decide +kernel
theorem dX0_slotAt_14 : decode cX0_slotAt 14 = .ok (.iload_n 1, 1) := by decide +kernel
theorem dX0_slotAt_15 : decode cX0_slotAt 15 = .ok (.aaload, 1) := by decide +kernel
theorem dX0_slotAt_16 : decode cX0_slotAt 16 = .ok (.goto 4, 3) := by decide +kernel
theorem dX0_slotAt_19 : decode cX0_slotAt 19 = .ok (.aconst_null, 1) := by decide +kernel
theorem dX0_slotAt_20 : decode cX0_slotAt 20 = .ok (.areturn, 1) := by decide +kernel
theorem dX1_init_0 : decode cX1_init 0 = .ok (.aload_n 0, 1) := by decide +kernel
theorem dX1_init_1 : decode cX1_init 1 = .ok (.invokespecial 3, 3) := by decide +kernel
theorem dX1_init_4 : decode cX1_init 4 = .ok (.aload_n 0, 1) := by decide +kernel
theorem dX1_init_5 : decode cX1_init 5 = .ok (.bipush 6, 2) := by decide +kernel
theorem dX1_init_7 : decode cX1_init 7 = .ok (.newarray .int, 2) := by decide +kernel
theorem dX1_init_9 : decode cX1_init 9 = .ok (.putfield 9, 3) := by decide +kernel
theorem dX1_init_12 : decode cX1_init 12 = .ok (.aload_n 0, 1) := by decide +kernel
theorem dX1_init_13 : decode cX1_init 13 = .ok (.bipush 6, 2) := by decide +kernel
theorem dX1_init_15 : decode cX1_init 15 = .ok (.newarray .int, 2) := by decide +kernel
theorem dX1_init_17 : decode cX1_init 17 = .ok (.putfield 15, 3) := by decide +kernel
theorem dX1_init_20 : decode cX1_init 20 = .ok (.aload_n 0, 1) := by decide +kernel
theorem dX1_init_21 : decode cX1_init 21 = .ok (.bipush 6, 2) := by decide +kernel
theorem dX1_init_23 : decode cX1_init 23 = .ok (.newarray .int, 2) := by decide +kernel
theorem dX1_init_25 : decode cX1_init 25 = .ok (.putfield 18, 3) := by decide +kernel
theorem dX1_init_28 : decode cX1_init 28 = .ok (.aload_n 0, 1) := by decide +kernel
theorem dX1_init_29 : decode cX1_init 29 = .ok (.bipush 6, 2) := by decide +kernel
theorem dX1_init_31 : decode cX1_init 31 = .ok (.newarray .int, 2) := by decide +kernel
theorem dX1_init_33 : decode cX1_init 33 = .ok (.putfield 21, 3) := by decide +kernel
theorem dX1_init_36 : decode cX1_init 36 = .ok (.aload_n 0, 1) := by decide +kernel
theorem dX1_init_37 : decode cX1_init 37 = .ok (.iconst 0, 1) := by decide +kernel
theorem dX1_init_38 : decode cX1_init 38 = .ok (.putfield 24, 3) := by decide +kernel
theorem dX1_init_41 : decode cX1_init 41 = .ok (.aload_n 0, 1) := by decide +kernel
theorem dX1_init_42 : decode cX1_init 42 = .ok (.iconst 1, 1) := by decide +kernel
theorem dX1_init_43 : decode cX1_init 43 = .ok (.putfield 28, 3) := by decide +kernel
theorem dX1_init_46 : decode cX1_init 46 = .ok (.return_, 1) := by decide +kernel
theorem dX1_hasRay_0 : decode cX1_hasRay 0 = .ok (.iload_n 1, 1) := by decide +kernel
theorem dX1_hasRay_1 : decode cX1_hasRay 1 = .ok (.ifCond .lt 21, 3) := by decide +kernel
theorem dX1_hasRay_4 : decode cX1_hasRay 4 = .ok (.iload_n 1, 1) := by decide +kernel
theorem dX1_hasRay_5 : decode cX1_hasRay 5 = .ok (.aload_n 0, 1) := by decide +kernel
theorem dX1_hasRay_6 : decode cX1_hasRay 6 = .ok (.getfield 24, 3) := by decide +kernel
theorem dX1_hasRay_9 : decode cX1_hasRay 9 = .ok (.if_icmp .ge 13, 3) := by decide +kernel
theorem dX1_hasRay_12 : decode cX1_hasRay 12 = .ok (.iload_n 1, 1) := by decide +kernel
theorem dX1_hasRay_13 : decode cX1_hasRay 13 = .ok (.bipush 6, 2) := by decide +kernel
theorem dX1_hasRay_15 : decode cX1_hasRay 15 = .ok (.if_icmp .ge 7, 3) := by decide +kernel
theorem dX1_hasRay_18 : decode cX1_hasRay 18 = .ok (.iconst 1, 1) := by decide +kernel
theorem dX1_hasRay_19 : decode cX1_hasRay 19 = .ok (.goto 4, 3) := by decide +kernel
theorem dX1_hasRay_22 : decode cX1_hasRay 22 = .ok (.iconst 0, 1) := by decide +kernel
theorem dX1_hasRay_23 : decode cX1_hasRay 23 = .ok (.ireturn, 1) := by decide +kernel
theorem dX1_chambers_0 : decode cX1_chambers 0 = .ok (.iconst 0, 1) := by decide +kernel
theorem dX1_chambers_1 : decode cX1_chambers 1 = .ok (.aload_n 0, 1) := by decide +kernel
theorem dX1_chambers_2 : decode cX1_chambers 2 = .ok (.getfield 24, 3) := by decide +kernel
theorem dX1_chambers_5 : decode cX1_chambers 5 = .ok (.iconst 1, 1) := by decide +kernel
theorem dX1_chambers_6 : decode cX1_chambers 6 = .ok (.isub, 1) := by decide +kernel
theorem dX1_chambers_7 : decode cX1_chambers 7 = .ok (.invokestatic 31, 3) := by decide +kernel
theorem dX1_chambers_10 : decode cX1_chambers 10 = .ok (.ireturn, 1) := by decide +kernel
theorem dX1_hasFormulas_0 : decode cX1_hasFormulas 0 = .ok (.aload_n 0, 1) := by decide +kernel
theorem dX1_hasFormulas_1 : decode cX1_hasFormulas 1 = .ok (.invokevirtual 37, 3) := by decide +kernel
theorem dX1_hasFormulas_4 : decode cX1_hasFormulas 4 = .ok (.ifCond .le 16, 3) := by decide +kernel
theorem dX1_hasFormulas_7 : decode cX1_hasFormulas 7 = .ok (.aload_n 0, 1) := by decide +kernel
theorem dX1_hasFormulas_8 : decode cX1_hasFormulas 8 = .ok (.getfield 28, 3) := by decide +kernel
theorem dX1_hasFormulas_11 : decode cX1_hasFormulas 11 = .ok (.bipush 6, 2) := by decide +kernel
theorem dX1_hasFormulas_13 : decode cX1_hasFormulas 13 = .ok (.if_icmp .gt 7, 3) := by decide +kernel
theorem dX1_hasFormulas_16 : decode cX1_hasFormulas 16 = .ok (.iconst 1, 1) := by decide +kernel
theorem dX1_hasFormulas_17 : decode cX1_hasFormulas 17 = .ok (.goto 4, 3) := by decide +kernel
theorem dX1_hasFormulas_20 : decode cX1_hasFormulas 20 = .ok (.iconst 0, 1) := by decide +kernel
theorem dX1_hasFormulas_21 : decode cX1_hasFormulas 21 = .ok (.ireturn, 1) := by decide +kernel
theorem dX1_spread_0 : decode cX1_spread 0 = .ok (.aload_n 0, 1) := by decide +kernel
theorem dX1_spread_1 : decode cX1_spread 1 = .ok (.iconst 0, 1) := by decide +kernel
theorem dX1_spread_2 : decode cX1_spread 2 = .ok (.putfield 24, 3) := by decide +kernel
theorem dX1_spread_5 : decode cX1_spread 5 = .ok (.iconst 0, 1) := by decide +kernel
theorem dX1_spread_6 : decode cX1_spread 6 = .ok (.istore_n 2, 1) := by decide +kernel
theorem dX1_spread_7 : decode cX1_spread 7 = .ok (.iload_n 2, 1) := by decide +kernel
theorem dX1_spread_8 : decode cX1_spread 8 = .ok (.aload_n 1, 1) := by decide +kernel
theorem dX1_spread_9 : decode cX1_spread 9 = .ok (.getfield 41, 3) := by decide +kernel
theorem dX1_spread_12 : decode cX1_spread 12 = .ok (.if_icmp .ge 31, 3) := by decide +kernel
theorem dX1_spread_15 : decode cX1_spread 15 = .ok (.iload_n 2, 1) := by decide +kernel
theorem dX1_spread_16 : decode cX1_spread 16 = .ok (.bipush 6, 2) := by decide +kernel
theorem dX1_spread_18 : decode cX1_spread 18 = .ok (.if_icmp .ge 25, 3) := by decide +kernel
theorem dX1_spread_21 : decode cX1_spread 21 = .ok (.aload_n 0, 1) := by decide +kernel
theorem dX1_spread_22 : decode cX1_spread 22 = .ok (.aload_n 1, 1) := by decide +kernel
theorem dX1_spread_23 : decode cX1_spread 23 = .ok (.getfield 46, 3) := by decide +kernel
theorem dX1_spread_26 : decode cX1_spread 26 = .ok (.iload_n 2, 1) := by decide +kernel
theorem dX1_spread_27 : decode cX1_spread 27 = .ok (.iaload, 1) := by decide +kernel
theorem dX1_spread_28 : decode cX1_spread 28 = .ok (.aload_n 1, 1) := by decide +kernel
theorem dX1_spread_29 : decode cX1_spread 29 = .ok (.getfield 47, 3) := by decide +kernel
theorem dX1_spread_32 : decode cX1_spread 32 = .ok (.iload_n 2, 1) := by decide +kernel
theorem dX1_spread_33 : decode cX1_spread 33 = .ok (.iaload, 1) := by decide +kernel
theorem dX1_spread_34 : decode cX1_spread 34 = .ok (.invokevirtual 48, 3) := by decide +kernel
theorem dX1_spread_37 : decode cX1_spread 37 = .ok (.iinc 2 1, 3) := by decide +kernel
theorem dX1_spread_40 : decode cX1_spread 40 = .ok (.goto (-33), 3) := by decide +kernel
theorem dX1_spread_43 : decode cX1_spread 43 = .ok (.aload_n 0, 1) := by decide +kernel
theorem dX1_spread_44 : decode cX1_spread 44 = .ok (.getfield 18, 3) := by decide +kernel
theorem dX1_spread_47 : decode cX1_spread 47 = .ok (.iconst 0, 1) := by decide +kernel
theorem dX1_spread_48 : decode cX1_spread 48 = .ok (.invokestatic 52, 3) := by decide +kernel
theorem dX1_spread_51 : decode cX1_spread 51 = .ok (.iconst 0, 1) := by decide +kernel
theorem dX1_spread_52 : decode cX1_spread 52 = .ok (.istore_n 2, 1) := by decide +kernel
theorem dX1_spread_53 : decode cX1_spread 53 = .ok (.iload_n 2, 1) := by decide +kernel
theorem dX1_spread_54 : decode cX1_spread 54 = .ok (.aload_n 1, 1) := by decide +kernel
theorem dX1_spread_55 : decode cX1_spread 55 = .ok (.getfield 41, 3) := by decide +kernel
theorem dX1_spread_58 : decode cX1_spread 58 = .ok (.if_icmp .ge 59, 3) := by decide +kernel
theorem dX1_spread_61 : decode cX1_spread 61 = .ok (.iload_n 2, 1) := by decide +kernel
theorem dX1_spread_62 : decode cX1_spread 62 = .ok (.bipush 6, 2) := by decide +kernel
theorem dX1_spread_64 : decode cX1_spread 64 = .ok (.if_icmp .ge 53, 3) := by decide +kernel
theorem dX1_spread_67 : decode cX1_spread 67 = .ok (.aload_n 0, 1) := by decide +kernel
theorem dX1_spread_68 : decode cX1_spread 68 = .ok (.aload_n 1, 1) := by decide +kernel
theorem dX1_spread_69 : decode cX1_spread 69 = .ok (.getfield 46, 3) := by decide +kernel
theorem dX1_spread_72 : decode cX1_spread 72 = .ok (.iload_n 2, 1) := by decide +kernel
theorem dX1_spread_73 : decode cX1_spread 73 = .ok (.iaload, 1) := by decide +kernel
theorem dX1_spread_74 : decode cX1_spread 74 = .ok (.aload_n 1, 1) := by decide +kernel
theorem dX1_spread_75 : decode cX1_spread 75 = .ok (.getfield 47, 3) := by decide +kernel
theorem dX1_spread_78 : decode cX1_spread 78 = .ok (.iload_n 2, 1) := by decide +kernel
theorem dX1_spread_79 : decode cX1_spread 79 = .ok (.iaload, 1) := by decide +kernel
theorem dX1_spread_80 : decode cX1_spread 80 = .ok (.invokevirtual 58, 3) := by decide +kernel
theorem dX1_spread_83 : decode cX1_spread 83 = .ok (.istore_n 3, 1) := by decide +kernel
theorem dX1_spread_84 : decode cX1_spread 84 = .ok (.aload_n 0, 1) := by decide +kernel
theorem dX1_spread_85 : decode cX1_spread 85 = .ok (.getfield 21, 3) := by decide +kernel
theorem dX1_spread_88 : decode cX1_spread 88 = .ok (.iload_n 2, 1) := by decide +kernel
theorem dX1_spread_89 : decode cX1_spread 89 = .ok (.iload_n 3, 1) := by decide +kernel
theorem dX1_spread_90 : decode cX1_spread 90 = .ok (.iastore, 1) := by decide +kernel
theorem dX1_spread_91 : decode cX1_spread 91 = .ok (.iload_n 3, 1) := by decide +kernel
theorem dX1_spread_92 : decode cX1_spread 92 = .ok (.ifCond .lt 19, 3) := by decide +kernel
theorem dX1_spread_95 : decode cX1_spread 95 = .ok (.iload_n 3, 1) := by decide +kernel
theorem dX1_spread_96 : decode cX1_spread 96 = .ok (.bipush 6, 2) := by decide +kernel
theorem dX1_spread_98 : decode cX1_spread 98 = .ok (.if_icmp .ge 13, 3) := by decide +kernel
theorem dX1_spread_101 : decode cX1_spread 101 = .ok (.aload_n 0, 1) := by decide +kernel
theorem dX1_spread_102 : decode cX1_spread 102 = .ok (.getfield 18, 3) := by decide +kernel
theorem dX1_spread_105 : decode cX1_spread 105 = .ok (.iload_n 3, 1) := by decide +kernel
theorem dX1_spread_106 : decode cX1_spread 106 = .ok (.dup2, 1) := by decide +kernel
theorem dX1_spread_107 : decode cX1_spread 107 = .ok (.iaload, 1) := by decide +kernel
theorem dX1_spread_108 : decode cX1_spread 108 = .ok (.iconst 1, 1) := by decide +kernel
theorem dX1_spread_109 : decode cX1_spread 109 = .ok (.iadd, 1) := by decide +kernel
theorem dX1_spread_110 : decode cX1_spread 110 = .ok (.iastore, 1) := by decide +kernel
theorem dX1_spread_111 : decode cX1_spread 111 = .ok (.iinc 2 1, 3) := by decide +kernel
theorem dX1_spread_114 : decode cX1_spread 114 = .ok (.goto (-61), 3) := by decide +kernel
theorem dX1_spread_117 : decode cX1_spread 117 = .ok (.aload_n 0, 1) := by decide +kernel
theorem dX1_spread_118 : decode cX1_spread 118 = .ok (.aload_n 1, 1) := by decide +kernel
theorem dX1_spread_119 : decode cX1_spread 119 = .ok (.invokevirtual 61, 3) := by decide +kernel
theorem dX1_spread_122 : decode cX1_spread 122 = .ok (.return_, 1) := by decide +kernel
theorem dX1_addRay_0 : decode cX1_addRay 0 = .ok (.iconst 0, 1) := by decide +kernel
theorem dX1_addRay_1 : decode cX1_addRay 1 = .ok (.istore_n 3, 1) := by decide +kernel
theorem dX1_addRay_2 : decode cX1_addRay 2 = .ok (.iload_n 3, 1) := by decide +kernel
theorem dX1_addRay_3 : decode cX1_addRay 3 = .ok (.bipush 6, 2) := by decide +kernel
theorem dX1_addRay_5 : decode cX1_addRay 5 = .ok (.if_icmp .ge 37, 3) := by decide +kernel
theorem dX1_addRay_8 : decode cX1_addRay 8 = .ok (.aload_n 0, 1) := by decide +kernel
theorem dX1_addRay_9 : decode cX1_addRay 9 = .ok (.iload_n 3, 1) := by decide +kernel
theorem dX1_addRay_10 : decode cX1_addRay 10 = .ok (.invokevirtual 65, 3) := by decide +kernel
theorem dX1_addRay_13 : decode cX1_addRay 13 = .ok (.ifCond .eq 29, 3) := by decide +kernel
theorem dX1_addRay_16 : decode cX1_addRay 16 = .ok (.aload_n 0, 1) := by decide +kernel
theorem dX1_addRay_17 : decode cX1_addRay 17 = .ok (.getfield 9, 3) := by decide +kernel
theorem dX1_addRay_20 : decode cX1_addRay 20 = .ok (.iload_n 3, 1) := by decide +kernel
theorem dX1_addRay_21 : decode cX1_addRay 21 = .ok (.iaload, 1) := by decide +kernel
theorem dX1_addRay_22 : decode cX1_addRay 22 = .ok (.aload_n 0, 1) := by decide +kernel
theorem dX1_addRay_23 : decode cX1_addRay 23 = .ok (.getfield 15, 3) := by decide +kernel
theorem dX1_addRay_26 : decode cX1_addRay 26 = .ok (.iload_n 3, 1) := by decide +kernel
theorem dX1_addRay_27 : decode cX1_addRay 27 = .ok (.iaload, 1) := by decide +kernel
theorem dX1_addRay_28 : decode cX1_addRay 28 = .ok (.iload_n 1, 1) := by decide +kernel
theorem dX1_addRay_29 : decode cX1_addRay 29 = .ok (.iload_n 2, 1) := by decide +kernel
theorem dX1_addRay_30 : decode cX1_addRay 30 = .ok (.invokestatic 69, 3) := by decide +kernel
theorem dX1_addRay_33 : decode cX1_addRay 33 = .ok (.ifCond .le 9, 3) := by decide +kernel
theorem dX1_addRay_36 : decode cX1_addRay 36 = .ok (.iinc 3 1, 3) := by decide +kernel
theorem dX1_addRay_39 : decode cX1_addRay 39 = .ok (.goto (-37), 3) := by decide +kernel
theorem dX1_addRay_42 : decode cX1_addRay 42 = .ok (.aload_n 0, 1) := by decide +kernel
theorem dX1_addRay_43 : decode cX1_addRay 43 = .ok (.iload_n 3, 1) := by decide +kernel
theorem dX1_addRay_44 : decode cX1_addRay 44 = .ok (.invokevirtual 65, 3) := by decide +kernel
theorem dX1_addRay_47 : decode cX1_addRay 47 = .ok (.ifCond .eq 27, 3) := by decide +kernel
theorem dX1_addRay_50 : decode cX1_addRay 50 = .ok (.aload_n 0, 1) := by decide +kernel
theorem dX1_addRay_51 : decode cX1_addRay 51 = .ok (.getfield 9, 3) := by decide +kernel
theorem dX1_addRay_54 : decode cX1_addRay 54 = .ok (.iload_n 3, 1) := by decide +kernel
theorem dX1_addRay_55 : decode cX1_addRay 55 = .ok (.iaload, 1) := by decide +kernel
theorem dX1_addRay_56 : decode cX1_addRay 56 = .ok (.aload_n 0, 1) := by decide +kernel
theorem dX1_addRay_57 : decode cX1_addRay 57 = .ok (.getfield 15, 3) := by decide +kernel
theorem dX1_addRay_60 : decode cX1_addRay 60 = .ok (.iload_n 3, 1) := by decide +kernel
theorem dX1_addRay_61 : decode cX1_addRay 61 = .ok (.iaload, 1) := by decide +kernel
theorem dX1_addRay_62 : decode cX1_addRay 62 = .ok (.iload_n 1, 1) := by decide +kernel
theorem dX1_addRay_63 : decode cX1_addRay 63 = .ok (.iload_n 2, 1) := by decide +kernel
theorem dX1_addRay_64 : decode cX1_addRay 64 = .ok (.invokestatic 69, 3) := by decide +kernel
theorem dX1_addRay_67 : decode cX1_addRay 67 = .ok (.ifCond .ne 7, 3) := by decide +kernel
theorem dX1_addRay_70 : decode cX1_addRay 70 = .ok (.iconst 1, 1) := by decide +kernel
theorem dX1_addRay_71 : decode cX1_addRay 71 = .ok (.goto 4, 3) := by decide +kernel
theorem dX1_addRay_74 : decode cX1_addRay 74 = .ok (.iconst 0, 1) := by decide +kernel
theorem dX1_addRay_75 : decode cX1_addRay 75 = .ok (.istore 4, 2) := by decide +kernel
theorem dX1_addRay_77 : decode cX1_addRay 77 = .ok (.iload 4, 2) := by decide +kernel
theorem dX1_addRay_79 : decode cX1_addRay 79 = .ok (.ifCond .ne 19, 3) := by decide +kernel
theorem dX1_addRay_82 : decode cX1_addRay 82 = .ok (.aload_n 0, 1) := by decide +kernel
theorem dX1_addRay_83 : decode cX1_addRay 83 = .ok (.getfield 24, 3) := by decide +kernel
theorem dX1_addRay_86 : decode cX1_addRay 86 = .ok (.ifCond .lt 12, 3) := by decide +kernel
theorem dX1_addRay_89 : decode cX1_addRay 89 = .ok (.aload_n 0, 1) := by decide +kernel
theorem dX1_addRay_90 : decode cX1_addRay 90 = .ok (.getfield 24, 3) := by decide +kernel
theorem dX1_addRay_93 : decode cX1_addRay 93 = .ok (.bipush 6, 2) := by decide +kernel
theorem dX1_addRay_95 : decode cX1_addRay 95 = .ok (.if_icmp .lt 4, 3) := by decide +kernel
theorem dX1_addRay_98 : decode cX1_addRay 98 = .ok (.return_, 1) := by decide +kernel
theorem dX1_addRay_99 : decode cX1_addRay 99 = .ok (.aload_n 0, 1) := by decide +kernel
theorem dX1_addRay_100 : decode cX1_addRay 100 = .ok (.getfield 24, 3) := by decide +kernel
theorem dX1_addRay_103 : decode cX1_addRay 103 = .ok (.istore 5, 2) := by decide +kernel
theorem dX1_addRay_105 : decode cX1_addRay 105 = .ok (.iload 5, 2) := by decide +kernel
theorem dX1_addRay_107 : decode cX1_addRay 107 = .ok (.iload_n 3, 1) := by decide +kernel
theorem dX1_addRay_108 : decode cX1_addRay 108 = .ok (.if_icmp .le 46, 3) := by decide +kernel
theorem dX1_addRay_111 : decode cX1_addRay 111 = .ok (.iload 5, 2) := by decide +kernel
theorem dX1_addRay_113 : decode cX1_addRay 113 = .ok (.ifCond .le 41, 3) := by decide +kernel
theorem dX1_addRay_116 : decode cX1_addRay 116 = .ok (.aload_n 0, 1) := by decide +kernel
theorem dX1_addRay_117 : decode cX1_addRay 117 = .ok (.getfield 9, 3) := by decide +kernel
theorem dX1_addRay_120 : decode cX1_addRay 120 = .ok (.iload 5, 2) := by decide +kernel
theorem dX1_addRay_122 : decode cX1_addRay 122 = .ok (.aload_n 0, 1) := by decide +kernel
theorem dX1_addRay_123 : decode cX1_addRay 123 = .ok (.getfield 9, 3) := by decide +kernel
theorem dX1_addRay_126 : decode cX1_addRay 126 = .ok (.iload 5, 2) := by decide +kernel
theorem dX1_addRay_128 : decode cX1_addRay 128 = .ok (.iconst 1, 1) := by decide +kernel
theorem dX1_addRay_129 : decode cX1_addRay 129 = .ok (.isub, 1) := by decide +kernel
theorem dX1_addRay_130 : decode cX1_addRay 130 = .ok (.iaload, 1) := by decide +kernel
theorem dX1_addRay_131 : decode cX1_addRay 131 = .ok (.iastore, 1) := by decide +kernel
theorem dX1_addRay_132 : decode cX1_addRay 132 = .ok (.aload_n 0, 1) := by decide +kernel
theorem dX1_addRay_133 : decode cX1_addRay 133 = .ok (.getfield 15, 3) := by decide +kernel
theorem dX1_addRay_136 : decode cX1_addRay 136 = .ok (.iload 5, 2) := by decide +kernel
theorem dX1_addRay_138 : decode cX1_addRay 138 = .ok (.aload_n 0, 1) := by decide +kernel
theorem dX1_addRay_139 : decode cX1_addRay 139 = .ok (.getfield 15, 3) := by decide +kernel
theorem dX1_addRay_142 : decode cX1_addRay 142 = .ok (.iload 5, 2) := by decide +kernel
theorem dX1_addRay_144 : decode cX1_addRay 144 = .ok (.iconst 1, 1) := by decide +kernel
theorem dX1_addRay_145 : decode cX1_addRay 145 = .ok (.isub, 1) := by decide +kernel
theorem dX1_addRay_146 : decode cX1_addRay 146 = .ok (.iaload, 1) := by decide +kernel
theorem dX1_addRay_147 : decode cX1_addRay 147 = .ok (.iastore, 1) := by decide +kernel
theorem dX1_addRay_148 : decode cX1_addRay 148 = .ok (.iinc 5 (-1), 3) := by decide +kernel
theorem dX1_addRay_151 : decode cX1_addRay 151 = .ok (.goto (-46), 3) := by decide +kernel
theorem dX1_addRay_154 : decode cX1_addRay 154 = .ok (.iload_n 1, 1) := by decide +kernel
theorem dX1_addRay_155 : decode cX1_addRay 155 = .ok (.iload_n 2, 1) := by decide +kernel
theorem dX1_addRay_156 : decode cX1_addRay 156 = .ok (.invokestatic 73, 3) := by decide +kernel
theorem dX1_addRay_159 : decode cX1_addRay 159 = .ok (.istore 5, 2) := by decide +kernel
theorem dX1_addRay_161 : decode cX1_addRay 161 = .ok (.aload_n 0, 1) := by decide +kernel
theorem dX1_addRay_162 : decode cX1_addRay 162 = .ok (.getfield 9, 3) := by decide +kernel
theorem dX1_addRay_165 : decode cX1_addRay 165 = .ok (.iload_n 3, 1) := by decide +kernel
theorem dX1_addRay_166 : decode cX1_addRay 166 = .ok (.iload 5, 2) := by decide +kernel
theorem dX1_addRay_168 : decode cX1_addRay 168 = .ok (.iconst 1, 1) := by decide +kernel
theorem dX1_addRay_169 : decode cX1_addRay 169 = .ok (.if_icmp .ge 7, 3) := by decide +kernel
theorem dX1_addRay_172 : decode cX1_addRay 172 = .ok (.iload_n 1, 1) := by decide +kernel
theorem dX1_addRay_173 : decode cX1_addRay 173 = .ok (.goto 7, 3) := by decide +kernel
theorem dX1_addRay_176 : decode cX1_addRay 176 = .ok (.iload_n 1, 1) := by decide +kernel
theorem dX1_addRay_177 : decode cX1_addRay 177 = .ok (.iload 5, 2) := by decide +kernel
theorem dX1_addRay_179 : decode cX1_addRay 179 = .ok (.idiv, 1) := by decide +kernel
theorem dX1_addRay_180 : decode cX1_addRay 180 = .ok (.iastore, 1) := by decide +kernel
theorem dX1_addRay_181 : decode cX1_addRay 181 = .ok (.aload_n 0, 1) := by decide +kernel
theorem dX1_addRay_182 : decode cX1_addRay 182 = .ok (.getfield 15, 3) := by decide +kernel
theorem dX1_addRay_185 : decode cX1_addRay 185 = .ok (.iload_n 3, 1) := by decide +kernel
theorem dX1_addRay_186 : decode cX1_addRay 186 = .ok (.iload 5, 2) := by decide +kernel
theorem dX1_addRay_188 : decode cX1_addRay 188 = .ok (.iconst 1, 1) := by decide +kernel
theorem dX1_addRay_189 : decode cX1_addRay 189 = .ok (.if_icmp .ge 7, 3) := by decide +kernel
theorem dX1_addRay_192 : decode cX1_addRay 192 = .ok (.iload_n 2, 1) := by decide +kernel
theorem dX1_addRay_193 : decode cX1_addRay 193 = .ok (.goto 7, 3) := by decide +kernel
theorem dX1_addRay_196 : decode cX1_addRay 196 = .ok (.iload_n 2, 1) := by decide +kernel
theorem dX1_addRay_197 : decode cX1_addRay 197 = .ok (.iload 5, 2) := by decide +kernel
theorem dX1_addRay_199 : decode cX1_addRay 199 = .ok (.idiv, 1) := by decide +kernel
theorem dX1_addRay_200 : decode cX1_addRay 200 = .ok (.iastore, 1) := by decide +kernel
theorem dX1_addRay_201 : decode cX1_addRay 201 = .ok (.aload_n 0, 1) := by decide +kernel
theorem dX1_addRay_202 : decode cX1_addRay 202 = .ok (.dup, 1) := by decide +kernel
theorem dX1_addRay_203 : decode cX1_addRay 203 = .ok (.getfield 24, 3) := by decide +kernel
theorem dX1_addRay_206 : decode cX1_addRay 206 = .ok (.iconst 1, 1) := by decide +kernel
theorem dX1_addRay_207 : decode cX1_addRay 207 = .ok (.iadd, 1) := by decide +kernel
theorem dX1_addRay_208 : decode cX1_addRay 208 = .ok (.putfield 24, 3) := by decide +kernel
theorem dX1_addRay_211 : decode cX1_addRay 211 = .ok (.return_, 1) := by decide +kernel
theorem dX1_rayTowards_0 : decode cX1_rayTowards 0 = .ok (.iconst 0, 1) := by decide +kernel
theorem dX1_rayTowards_1 : decode cX1_rayTowards 1 = .ok (.istore_n 3, 1) := by decide +kernel
theorem dX1_rayTowards_2 : decode cX1_rayTowards 2 = .ok (.iload_n 3, 1) := by decide +kernel
theorem dX1_rayTowards_3 : decode cX1_rayTowards 3 = .ok (.bipush 6, 2) := by decide +kernel
theorem dX1_rayTowards_5 : decode cX1_rayTowards 5 = .ok (.if_icmp .ge 39, 3) := by decide +kernel
theorem dX1_rayTowards_8 : decode cX1_rayTowards 8 = .ok (.aload_n 0, 1) := by decide +kernel
theorem dX1_rayTowards_9 : decode cX1_rayTowards 9 = .ok (.iload_n 3, 1) := by decide +kernel
theorem dX1_rayTowards_10 : decode cX1_rayTowards 10 = .ok (.invokevirtual 65, 3) := by decide +kernel
theorem dX1_rayTowards_13 : decode cX1_rayTowards 13 = .ok (.ifCond .eq 31, 3) := by decide +kernel
theorem dX1_rayTowards_16 : decode cX1_rayTowards 16 = .ok (.aload_n 0, 1) := by decide +kernel
theorem dX1_rayTowards_17 : decode cX1_rayTowards 17 = .ok (.getfield 9, 3) := by decide +kernel
theorem dX1_rayTowards_20 : decode cX1_rayTowards 20 = .ok (.iload_n 3, 1) := by decide +kernel
theorem dX1_rayTowards_21 : decode cX1_rayTowards 21 = .ok (.iaload, 1) := by decide +kernel
theorem dX1_rayTowards_22 : decode cX1_rayTowards 22 = .ok (.aload_n 0, 1) := by decide +kernel
theorem dX1_rayTowards_23 : decode cX1_rayTowards 23 = .ok (.getfield 15, 3) := by decide +kernel
theorem dX1_rayTowards_26 : decode cX1_rayTowards 26 = .ok (.iload_n 3, 1) := by decide +kernel
theorem dX1_rayTowards_27 : decode cX1_rayTowards 27 = .ok (.iaload, 1) := by decide +kernel
theorem dX1_rayTowards_28 : decode cX1_rayTowards 28 = .ok (.iload_n 1, 1) := by decide +kernel
theorem dX1_rayTowards_29 : decode cX1_rayTowards 29 = .ok (.iload_n 2, 1) := by decide +kernel
theorem dX1_rayTowards_30 : decode cX1_rayTowards 30 = .ok (.invokestatic 69, 3) := by decide +kernel
theorem dX1_rayTowards_33 : decode cX1_rayTowards 33 = .ok (.ifCond .ne 5, 3) := by decide +kernel
theorem dX1_rayTowards_36 : decode cX1_rayTowards 36 = .ok (.iload_n 3, 1) := by decide +kernel
theorem dX1_rayTowards_37 : decode cX1_rayTowards 37 = .ok (.ireturn, 1) := by decide +kernel
theorem dX1_rayTowards_38 : decode cX1_rayTowards 38 = .ok (.iinc 3 1, 3) := by decide +kernel
theorem dX1_rayTowards_41 : decode cX1_rayTowards 41 = .ok (.goto (-39), 3) := by decide +kernel
theorem dX1_rayTowards_44 : decode cX1_rayTowards 44 = .ok (.iconst 0, 1) := by decide +kernel
theorem dX1_rayTowards_45 : decode cX1_rayTowards 45 = .ok (.ireturn, 1) := by decide +kernel
theorem dX1_findPeriod_0 : decode cX1_findPeriod 0 = .ok (.aload_n 0, 1) := by decide +kernel
theorem dX1_findPeriod_1 : decode cX1_findPeriod 1 = .ok (.iconst 1, 1) := by decide +kernel
theorem dX1_findPeriod_2 : decode cX1_findPeriod 2 = .ok (.putfield 28, 3) := by decide +kernel
theorem dX1_findPeriod_5 : decode cX1_findPeriod 5 = .ok (.iconst 0, 1) := by decide +kernel
theorem dX1_findPeriod_6 : decode cX1_findPeriod 6 = .ok (.istore_n 2, 1) := by decide +kernel
theorem dX1_findPeriod_7 : decode cX1_findPeriod 7 = .ok (.iload_n 2, 1) := by decide +kernel
theorem dX1_findPeriod_8 : decode cX1_findPeriod 8 = .ok (.aload_n 1, 1) := by decide +kernel
theorem dX1_findPeriod_9 : decode cX1_findPeriod 9 = .ok (.getfield 41, 3) := by decide +kernel
theorem dX1_findPeriod_12 : decode cX1_findPeriod 12 = .ok (.if_icmp .ge 69, 3) := by decide +kernel
theorem dX1_findPeriod_15 : decode cX1_findPeriod 15 = .ok (.iload_n 2, 1) := by decide +kernel
theorem dX1_findPeriod_16 : decode cX1_findPeriod 16 = .ok (.bipush 6, 2) := by decide +kernel
theorem dX1_findPeriod_18 : decode cX1_findPeriod 18 = .ok (.if_icmp .ge 63, 3) := by decide +kernel
theorem dX1_findPeriod_21 : decode cX1_findPeriod 21 = .ok (.iconst 0, 1) := by decide +kernel
theorem dX1_findPeriod_22 : decode cX1_findPeriod 22 = .ok (.istore_n 3, 1) := by decide +kernel
theorem dX1_findPeriod_23 : decode cX1_findPeriod 23 = .ok (.iload_n 3, 1) := by decide +kernel
theorem dX1_findPeriod_24 : decode cX1_findPeriod 24 = .ok (.iload_n 2, 1) := by decide +kernel
theorem dX1_findPeriod_25 : decode cX1_findPeriod 25 = .ok (.if_icmp .ge 50, 3) := by decide +kernel
theorem dX1_findPeriod_28 : decode cX1_findPeriod 28 = .ok (.aload_n 0, 1) := by decide +kernel
theorem dX1_findPeriod_29 : decode cX1_findPeriod 29 = .ok (.aload_n 0, 1) := by decide +kernel
theorem dX1_findPeriod_30 : decode cX1_findPeriod 30 = .ok (.getfield 28, 3) := by decide +kernel
theorem dX1_findPeriod_33 : decode cX1_findPeriod 33 = .ok (.aload_n 1, 1) := by decide +kernel
theorem dX1_findPeriod_34 : decode cX1_findPeriod 34 = .ok (.getfield 46, 3) := by decide +kernel
theorem dX1_findPeriod_37 : decode cX1_findPeriod 37 = .ok (.iload_n 2, 1) := by decide +kernel
theorem dX1_findPeriod_38 : decode cX1_findPeriod 38 = .ok (.iaload, 1) := by decide +kernel
theorem dX1_findPeriod_39 : decode cX1_findPeriod 39 = .ok (.aload_n 1, 1) := by decide +kernel
theorem dX1_findPeriod_40 : decode cX1_findPeriod 40 = .ok (.getfield 47, 3) := by decide +kernel
theorem dX1_findPeriod_43 : decode cX1_findPeriod 43 = .ok (.iload_n 2, 1) := by decide +kernel
theorem dX1_findPeriod_44 : decode cX1_findPeriod 44 = .ok (.iaload, 1) := by decide +kernel
theorem dX1_findPeriod_45 : decode cX1_findPeriod 45 = .ok (.aload_n 1, 1) := by decide +kernel
theorem dX1_findPeriod_46 : decode cX1_findPeriod 46 = .ok (.getfield 46, 3) := by decide +kernel
theorem dX1_findPeriod_49 : decode cX1_findPeriod 49 = .ok (.iload_n 3, 1) := by decide +kernel
theorem dX1_findPeriod_50 : decode cX1_findPeriod 50 = .ok (.iaload, 1) := by decide +kernel
theorem dX1_findPeriod_51 : decode cX1_findPeriod 51 = .ok (.aload_n 1, 1) := by decide +kernel
theorem dX1_findPeriod_52 : decode cX1_findPeriod 52 = .ok (.getfield 47, 3) := by decide +kernel
theorem dX1_findPeriod_55 : decode cX1_findPeriod 55 = .ok (.iload_n 3, 1) := by decide +kernel
theorem dX1_findPeriod_56 : decode cX1_findPeriod 56 = .ok (.iaload, 1) := by decide +kernel
theorem dX1_findPeriod_57 : decode cX1_findPeriod 57 = .ok (.invokestatic 69, 3) := by decide +kernel
theorem dX1_findPeriod_60 : decode cX1_findPeriod 60 = .ok (.invokestatic 76, 3) := by decide +kernel
theorem dX1_findPeriod_63 : decode cX1_findPeriod 63 = .ok (.invokestatic 80, 3) := by decide +kernel
theorem dX1_findPeriod_66 : decode cX1_findPeriod 66 = .ok (.putfield 28, 3) := by decide +kernel
theorem dX1_findPeriod_69 : decode cX1_findPeriod 69 = .ok (.iinc 3 1, 3) := by decide +kernel
theorem dX1_findPeriod_72 : decode cX1_findPeriod 72 = .ok (.goto (-49), 3) := by decide +kernel
theorem dX1_findPeriod_75 : decode cX1_findPeriod 75 = .ok (.iinc 2 1, 3) := by decide +kernel
theorem dX1_findPeriod_78 : decode cX1_findPeriod 78 = .ok (.goto (-71), 3) := by decide +kernel
theorem dX1_findPeriod_81 : decode cX1_findPeriod 81 = .ok (.return_, 1) := by decide +kernel
theorem dX1_size_0 : decode cX1_size 0 = .ok (.aload_n 0, 1) := by decide +kernel
theorem dX1_size_1 : decode cX1_size 1 = .ok (.iload_n 1, 1) := by decide +kernel
theorem dX1_size_2 : decode cX1_size 2 = .ok (.invokevirtual 65, 3) := by decide +kernel
theorem dX1_size_5 : decode cX1_size 5 = .ok (.ifCond .eq 13, 3) := by decide +kernel
theorem dX1_size_8 : decode cX1_size 8 = .ok (.aload_n 0, 1) := by decide +kernel
theorem dX1_size_9 : decode cX1_size 9 = .ok (.iload_n 1, 1) := by decide +kernel
theorem dX1_size_10 : decode cX1_size 10 = .ok (.iconst 1, 1) := by decide +kernel
theorem dX1_size_11 : decode cX1_size 11 = .ok (.iadd, 1) := by decide +kernel
theorem dX1_size_12 : decode cX1_size 12 = .ok (.invokevirtual 65, 3) := by decide +kernel
theorem dX1_size_15 : decode cX1_size 15 = .ok (.ifCond .ne 5, 3) := by decide +kernel
theorem dX1_size_18 : decode cX1_size 18 = .ok (.iconst 0, 1) := by decide +kernel
theorem dX1_size_19 : decode cX1_size 19 = .ok (.ireturn, 1) := by decide +kernel
theorem dX1_size_20 : decode cX1_size 20 = .ok (.aload_n 0, 1) := by decide +kernel
theorem dX1_size_21 : decode cX1_size 21 = .ok (.getfield 9, 3) := by decide +kernel
theorem dX1_size_24 : decode cX1_size 24 = .ok (.iload_n 1, 1) := by decide +kernel
theorem dX1_size_25 : decode cX1_size 25 = .ok (.iaload, 1) := by decide +kernel
theorem dX1_size_26 : decode cX1_size 26 = .ok (.aload_n 0, 1) := by decide +kernel
theorem dX1_size_27 : decode cX1_size 27 = .ok (.getfield 15, 3) := by decide +kernel
theorem dX1_size_30 : decode cX1_size 30 = .ok (.iload_n 1, 1) := by decide +kernel
theorem dX1_size_31 : decode cX1_size 31 = .ok (.iaload, 1) := by decide +kernel
theorem dX1_size_32 : decode cX1_size 32 = .ok (.aload_n 0, 1) := by decide +kernel
theorem dX1_size_33 : decode cX1_size 33 = .ok (.getfield 9, 3) := by decide +kernel
theorem dX1_size_36 : decode cX1_size 36 = .ok (.iload_n 1, 1) := by decide +kernel
theorem dX1_size_37 : decode cX1_size 37 = .ok (.iconst 1, 1) := by decide +kernel
theorem dX1_size_38 : decode cX1_size 38 = .ok (.iadd, 1) := by decide +kernel
theorem dX1_size_39 : decode cX1_size 39 = .ok (.iaload, 1) := by decide +kernel
theorem dX1_size_40 : decode cX1_size 40 = .ok (.aload_n 0, 1) := by decide +kernel
theorem dX1_size_41 : decode cX1_size 41 = .ok (.getfield 15, 3) := by decide +kernel
theorem dX1_size_44 : decode cX1_size 44 = .ok (.iload_n 1, 1) := by decide +kernel
theorem dX1_size_45 : decode cX1_size 45 = .ok (.iconst 1, 1) := by decide +kernel
theorem dX1_size_46 : decode cX1_size 46 = .ok (.iadd, 1) := by decide +kernel
theorem dX1_size_47 : decode cX1_size 47 = .ok (.iaload, 1) := by decide +kernel
theorem dX1_size_48 : decode cX1_size 48 = .ok (.invokestatic 69, 3) := by decide +kernel
theorem dX1_size_51 : decode cX1_size 51 = .ok (.ireturn, 1) := by decide +kernel
theorem dX1_firstSpan_0 : decode cX1_firstSpan 0 = .ok (.aload_n 0, 1) := by decide +kernel
theorem dX1_firstSpan_1 : decode cX1_firstSpan 1 = .ok (.iload_n 1, 1) := by decide +kernel
theorem dX1_firstSpan_2 : decode cX1_firstSpan 2 = .ok (.iconst 1, 1) := by decide +kernel
theorem dX1_firstSpan_3 : decode cX1_firstSpan 3 = .ok (.iadd, 1) := by decide +kernel
theorem dX1_firstSpan_4 : decode cX1_firstSpan 4 = .ok (.invokevirtual 65, 3) := by decide +kernel
theorem dX1_firstSpan_7 : decode cX1_firstSpan 7 = .ok (.ifCond .ne 5, 3) := by decide +kernel
theorem dX1_firstSpan_10 : decode cX1_firstSpan 10 = .ok (.iconst 0, 1) := by decide +kernel
theorem dX1_firstSpan_11 : decode cX1_firstSpan 11 = .ok (.ireturn, 1) := by decide +kernel
theorem dX1_firstSpan_12 : decode cX1_firstSpan 12 = .ok (.iload_n 2, 1) := by decide +kernel
theorem dX1_firstSpan_13 : decode cX1_firstSpan 13 = .ok (.iload_n 3, 1) := by decide +kernel
theorem dX1_firstSpan_14 : decode cX1_firstSpan 14 = .ok (.aload_n 0, 1) := by decide +kernel
theorem dX1_firstSpan_15 : decode cX1_firstSpan 15 = .ok (.getfield 9, 3) := by decide +kernel
theorem dX1_firstSpan_18 : decode cX1_firstSpan 18 = .ok (.iload_n 1, 1) := by decide +kernel
theorem dX1_firstSpan_19 : decode cX1_firstSpan 19 = .ok (.iconst 1, 1) := by decide +kernel
theorem dX1_firstSpan_20 : decode cX1_firstSpan 20 = .ok (.iadd, 1) := by decide +kernel
theorem dX1_firstSpan_21 : decode cX1_firstSpan 21 = .ok (.iaload, 1) := by decide +kernel
theorem dX1_firstSpan_22 : decode cX1_firstSpan 22 = .ok (.aload_n 0, 1) := by decide +kernel
theorem dX1_firstSpan_23 : decode cX1_firstSpan 23 = .ok (.getfield 15, 3) := by decide +kernel
theorem dX1_firstSpan_26 : decode cX1_firstSpan 26 = .ok (.iload_n 1, 1) := by decide +kernel
theorem dX1_firstSpan_27 : decode cX1_firstSpan 27 = .ok (.iconst 1, 1) := by decide +kernel
theorem dX1_firstSpan_28 : decode cX1_firstSpan 28 = .ok (.iadd, 1) := by decide +kernel
theorem dX1_firstSpan_29 : decode cX1_firstSpan 29 = .ok (.iaload, 1) := by decide +kernel
theorem dX1_firstSpan_30 : decode cX1_firstSpan 30 = .ok (.invokestatic 69, 3) := by decide +kernel
theorem dX1_firstSpan_33 : decode cX1_firstSpan 33 = .ok (.ireturn, 1) := by decide +kernel
theorem dX1_secondSpan_0 : decode cX1_secondSpan 0 = .ok (.aload_n 0, 1) := by decide +kernel
theorem dX1_secondSpan_1 : decode cX1_secondSpan 1 = .ok (.iload_n 1, 1) := by decide +kernel
theorem dX1_secondSpan_2 : decode cX1_secondSpan 2 = .ok (.invokevirtual 65, 3) := by decide +kernel
theorem dX1_secondSpan_5 : decode cX1_secondSpan 5 = .ok (.ifCond .ne 5, 3) := by decide +kernel
theorem dX1_secondSpan_8 : decode cX1_secondSpan 8 = .ok (.iconst 0, 1) := by decide +kernel
theorem dX1_secondSpan_9 : decode cX1_secondSpan 9 = .ok (.ireturn, 1) := by decide +kernel
theorem dX1_secondSpan_10 : decode cX1_secondSpan 10 = .ok (.aload_n 0, 1) := by decide +kernel
theorem dX1_secondSpan_11 : decode cX1_secondSpan 11 = .ok (.getfield 9, 3) := by decide +kernel
theorem dX1_secondSpan_14 : decode cX1_secondSpan 14 = .ok (.iload_n 1, 1) := by decide +kernel
theorem dX1_secondSpan_15 : decode cX1_secondSpan 15 = .ok (.iaload, 1) := by decide +kernel
theorem dX1_secondSpan_16 : decode cX1_secondSpan 16 = .ok (.aload_n 0, 1) := by decide +kernel
theorem dX1_secondSpan_17 : decode cX1_secondSpan 17 = .ok (.getfield 15, 3) := by decide +kernel
theorem dX1_secondSpan_20 : decode cX1_secondSpan 20 = .ok (.iload_n 1, 1) := by decide +kernel
theorem dX1_secondSpan_21 : decode cX1_secondSpan 21 = .ok (.iaload, 1) := by decide +kernel
theorem dX1_secondSpan_22 : decode cX1_secondSpan 22 = .ok (.iload_n 2, 1) := by decide +kernel
theorem dX1_secondSpan_23 : decode cX1_secondSpan 23 = .ok (.iload_n 3, 1) := by decide +kernel
theorem dX1_secondSpan_24 : decode cX1_secondSpan 24 = .ok (.invokestatic 69, 3) := by decide +kernel
theorem dX1_secondSpan_27 : decode cX1_secondSpan 27 = .ok (.ireturn, 1) := by decide +kernel
theorem dX1_turn_0 : decode cX1_turn 0 = .ok (.iload_n 0, 1) := by decide +kernel
theorem dX1_turn_1 : decode cX1_turn 1 = .ok (.iload_n 3, 1) := by decide +kernel
theorem dX1_turn_2 : decode cX1_turn 2 = .ok (.imul, 1) := by decide +kernel
theorem dX1_turn_3 : decode cX1_turn 3 = .ok (.iload_n 1, 1) := by decide +kernel
theorem dX1_turn_4 : decode cX1_turn 4 = .ok (.iload_n 2, 1) := by decide +kernel
theorem dX1_turn_5 : decode cX1_turn 5 = .ok (.imul, 1) := by decide +kernel
theorem dX1_turn_6 : decode cX1_turn 6 = .ok (.isub, 1) := by decide +kernel
theorem dX1_turn_7 : decode cX1_turn 7 = .ok (.ireturn, 1) := by decide +kernel
theorem dX1_commonDivisor_0 : decode cX1_commonDivisor 0 = .ok (.iconst 4, 1) := by decide +kernel
theorem dX1_commonDivisor_1 : decode cX1_commonDivisor 1 = .ok (.istore_n 2, 1) := by decide +kernel
theorem dX1_commonDivisor_2 : decode cX1_commonDivisor 2 = .ok (.iload_n 2, 1) := by decide +kernel
theorem dX1_commonDivisor_3 : decode cX1_commonDivisor 3 = .ok (.iconst 1, 1) := by decide +kernel
theorem dX1_commonDivisor_4 : decode cX1_commonDivisor 4 = .ok (.if_icmp .le 23, 3) := by decide +kernel
theorem dX1_commonDivisor_7 : decode cX1_commonDivisor 7 = .ok (.iload_n 0, 1) := by decide +kernel
theorem dX1_commonDivisor_8 : decode cX1_commonDivisor 8 = .ok (.iload_n 2, 1) := by decide +kernel
theorem dX1_commonDivisor_9 : decode cX1_commonDivisor 9 = .ok (.irem, 1) := by decide +kernel
theorem dX1_commonDivisor_10 : decode cX1_commonDivisor 10 = .ok (.ifCond .ne 11, 3) := by decide +kernel
theorem dX1_commonDivisor_13 : decode cX1_commonDivisor 13 = .ok (.iload_n 1, 1) := by decide +kernel
theorem dX1_commonDivisor_14 : decode cX1_commonDivisor 14 = .ok (.iload_n 2, 1) := by decide +kernel
theorem dX1_commonDivisor_15 : decode cX1_commonDivisor 15 = .ok (.irem, 1) := by decide +kernel
theorem dX1_commonDivisor_16 : decode cX1_commonDivisor 16 = .ok (.ifCond .ne 5, 3) := by decide +kernel
theorem dX1_commonDivisor_19 : decode cX1_commonDivisor 19 = .ok (.iload_n 2, 1) := by decide +kernel
theorem dX1_commonDivisor_20 : decode cX1_commonDivisor 20 = .ok (.ireturn, 1) := by decide +kernel
theorem dX1_commonDivisor_21 : decode cX1_commonDivisor 21 = .ok (.iinc 2 (-1), 3) := by decide +kernel
theorem dX1_commonDivisor_24 : decode cX1_commonDivisor 24 = .ok (.goto (-22), 3) := by decide +kernel
theorem dX1_commonDivisor_27 : decode cX1_commonDivisor 27 = .ok (.iconst 1, 1) := by decide +kernel
theorem dX1_commonDivisor_28 : decode cX1_commonDivisor 28 = .ok (.ireturn, 1) := by decide +kernel
theorem dX1_commonMultiple_0 : decode cX1_commonMultiple 0 = .ok (.iload_n 1, 1) := by decide +kernel
theorem dX1_commonMultiple_1 : decode cX1_commonMultiple 1 = .ok (.iconst 1, 1) := by decide +kernel
theorem dX1_commonMultiple_2 : decode cX1_commonMultiple 2 = .ok (.if_icmp .ge 5, 3) := by decide +kernel
theorem dX1_commonMultiple_5 : decode cX1_commonMultiple 5 = .ok (.iload_n 0, 1) := by decide +kernel
theorem dX1_commonMultiple_6 : decode cX1_commonMultiple 6 = .ok (.ireturn, 1) := by decide +kernel
theorem dX1_commonMultiple_7 : decode cX1_commonMultiple 7 = .ok (.iconst 1, 1) := by decide +kernel
theorem dX1_commonMultiple_8 : decode cX1_commonMultiple 8 = .ok (.istore_n 2, 1) := by decide +kernel
theorem dX1_commonMultiple_9 : decode cX1_commonMultiple 9 = .ok (.iload_n 2, 1) := by decide +kernel
theorem dX1_commonMultiple_10 : decode cX1_commonMultiple 10 = .ok (.iload_n 1, 1) := by decide +kernel
theorem dX1_commonMultiple_11 : decode cX1_commonMultiple 11 = .ok (.if_icmp .ge 21, 3) := by decide +kernel
theorem dX1_commonMultiple_14 : decode cX1_commonMultiple 14 = .ok (.iload_n 0, 1) := by decide +kernel
theorem dX1_commonMultiple_15 : decode cX1_commonMultiple 15 = .ok (.iload_n 2, 1) := by decide +kernel
theorem dX1_commonMultiple_16 : decode cX1_commonMultiple 16 = .ok (.imul, 1) := by decide +kernel
theorem dX1_commonMultiple_17 : decode cX1_commonMultiple 17 = .ok (.iload_n 1, 1) := by decide +kernel
theorem dX1_commonMultiple_18 : decode cX1_commonMultiple 18 = .ok (.irem, 1) := by decide +kernel
theorem dX1_commonMultiple_19 : decode cX1_commonMultiple 19 = .ok (.ifCond .ne 7, 3) := by decide +kernel
theorem dX1_commonMultiple_22 : decode cX1_commonMultiple 22 = .ok (.iload_n 0, 1) := by decide +kernel
theorem dX1_commonMultiple_23 : decode cX1_commonMultiple 23 = .ok (.iload_n 2, 1) := by decide +kernel
theorem dX1_commonMultiple_24 : decode cX1_commonMultiple 24 = .ok (.imul, 1) := by decide +kernel
theorem dX1_commonMultiple_25 : decode cX1_commonMultiple 25 = .ok (.ireturn, 1) := by decide +kernel
theorem dX1_commonMultiple_26 : decode cX1_commonMultiple 26 = .ok (.iinc 2 1, 3) := by decide +kernel
theorem dX1_commonMultiple_29 : decode cX1_commonMultiple 29 = .ok (.goto (-20), 3) := by decide +kernel
theorem dX1_commonMultiple_32 : decode cX1_commonMultiple 32 = .ok (.iload_n 0, 1) := by decide +kernel
theorem dX1_commonMultiple_33 : decode cX1_commonMultiple 33 = .ok (.iload_n 1, 1) := by decide +kernel
theorem dX1_commonMultiple_34 : decode cX1_commonMultiple 34 = .ok (.imul, 1) := by decide +kernel
theorem dX1_commonMultiple_35 : decode cX1_commonMultiple 35 = .ok (.ireturn, 1) := by decide +kernel
theorem dX2_init_0 : decode cX2_init 0 = .ok (.aload_n 0, 1) := by decide +kernel
theorem dX2_init_1 : decode cX2_init 1 = .ok (.invokespecial 3, 3) := by decide +kernel
theorem dX2_init_4 : decode cX2_init 4 = .ok (.aload_n 0, 1) := by decide +kernel
theorem dX2_init_5 : decode cX2_init 5 = .ok (.sipush 961, 3) := by decide +kernel
theorem dX2_init_8 : decode cX2_init 8 = .ok (.newarray .long, 2) := by decide +kernel
theorem dX2_init_10 : decode cX2_init 10 = .ok (.putfield 11, 3) := by decide +kernel
theorem dX2_init_13 : decode cX2_init 13 = .ok (.return_, 1) := by decide +kernel
theorem dX2_folded_0 : decode cX2_folded 0 = .ok (.aload_n 0, 1) := by decide +kernel
theorem dX2_folded_1 : decode cX2_folded 1 = .ok (.getfield 11, 3) := by decide +kernel
theorem dX2_folded_4 : decode cX2_folded 4 = .ok (.ldc2_w 15, 3) := by decide +kernel
theorem dX2_folded_7 : decode cX2_folded 7 = .ok (.invokestatic 17, 3) := by decide +kernel
theorem dX2_folded_10 : decode cX2_folded 10 = .ok (.aload_n 0, 1) := by decide +kernel
theorem dX2_folded_11 : decode cX2_folded 11 = .ok (.getfield 11, 3) := by decide +kernel
theorem dX2_folded_14 : decode cX2_folded 14 = .ok (.iconst 0, 1) := by decide +kernel
theorem dX2_folded_15 : decode cX2_folded 15 = .ok (.iload_n 1, 1) := by decide +kernel
theorem dX2_folded_16 : decode cX2_folded 16 = .ok (.iconst 1, 1) := by decide +kernel
theorem dX2_folded_17 : decode cX2_folded 17 = .ok (.if_icmp .eq 8, 3) := by decide +kernel
theorem dX2_folded_20 : decode cX2_folded 20 = .ok (.iload_n 1, 1) := by decide +kernel
theorem dX2_folded_21 : decode cX2_folded 21 = .ok (.iconst 2, 1) := by decide +kernel
theorem dX2_folded_22 : decode cX2_folded 22 = .ok (.if_icmp .ne 7, 3) := by decide +kernel
theorem dX2_folded_25 : decode cX2_folded 25 = .ok (.lconst 0, 1) := by decide +kernel
theorem dX2_folded_26 : decode cX2_folded 26 = .ok (.goto 4, 3) := by decide +kernel
theorem dX2_folded_29 : decode cX2_folded 29 = .ok (.lconst 1, 1) := by decide +kernel
theorem dX2_folded_30 : decode cX2_folded 30 = .ok (.lastore, 1) := by decide +kernel
theorem dX2_folded_31 : decode cX2_folded 31 = .ok (.iconst 0, 1) := by decide +kernel
theorem dX2_folded_32 : decode cX2_folded 32 = .ok (.istore 5, 2) := by decide +kernel
theorem dX2_folded_34 : decode cX2_folded 34 = .ok (.iload 5, 2) := by decide +kernel
theorem dX2_folded_36 : decode cX2_folded 36 = .ok (.aload 4, 2) := by decide +kernel
theorem dX2_folded_38 : decode cX2_folded 38 = .ok (.getfield 23, 3) := by decide +kernel
theorem dX2_folded_41 : decode cX2_folded 41 = .ok (.if_icmp .ge 65, 3) := by decide +kernel
theorem dX2_folded_44 : decode cX2_folded 44 = .ok (.iload 5, 2) := by decide +kernel
theorem dX2_folded_46 : decode cX2_folded 46 = .ok (.bipush 6, 2) := by decide +kernel
theorem dX2_folded_48 : decode cX2_folded 48 = .ok (.if_icmp .ge 58, 3) := by decide +kernel
theorem dX2_folded_51 : decode cX2_folded 51 = .ok (.iload_n 2, 1) := by decide +kernel
theorem dX2_folded_52 : decode cX2_folded 52 = .ok (.istore 6, 2) := by decide +kernel
theorem dX2_folded_54 : decode cX2_folded 54 = .ok (.iload 6, 2) := by decide +kernel
theorem dX2_folded_56 : decode cX2_folded 56 = .ok (.ifCond .lt 44, 3) := by decide +kernel
theorem dX2_folded_59 : decode cX2_folded 59 = .ok (.iload_n 3, 1) := by decide +kernel
theorem dX2_folded_60 : decode cX2_folded 60 = .ok (.istore 7, 2) := by decide +kernel
theorem dX2_folded_62 : decode cX2_folded 62 = .ok (.iload 7, 2) := by decide +kernel
theorem dX2_folded_64 : decode cX2_folded 64 = .ok (.ifCond .lt 30, 3) := by decide +kernel
theorem dX2_folded_67 : decode cX2_folded 67 = .ok (.aload_n 0, 1) := by decide +kernel
theorem dX2_folded_68 : decode cX2_folded 68 = .ok (.iload 6, 2) := by decide +kernel
theorem dX2_folded_70 : decode cX2_folded 70 = .ok (.iload 7, 2) := by decide +kernel
theorem dX2_folded_72 : decode cX2_folded 72 = .ok (.aload_n 0, 1) := by decide +kernel
theorem dX2_folded_73 : decode cX2_folded 73 = .ok (.iload 5, 2) := by decide +kernel
theorem dX2_folded_75 : decode cX2_folded 75 = .ok (.iload_n 1, 1) := by decide +kernel
theorem dX2_folded_76 : decode cX2_folded 76 = .ok (.iload 6, 2) := by decide +kernel
theorem dX2_folded_78 : decode cX2_folded 78 = .ok (.iload 7, 2) := by decide +kernel
theorem dX2_folded_80 : decode cX2_folded 80 = .ok (.aload 4, 2) := by decide +kernel
theorem dX2_folded_82 : decode cX2_folded 82 = .ok (.invokevirtual 29, 3) := by decide +kernel
theorem dX2_folded_85 : decode cX2_folded 85 = .ok (.invokevirtual 33, 3) := by decide +kernel
theorem dX2_folded_88 : decode cX2_folded 88 = .ok (.iinc 7 (-1), 3) := by decide +kernel
theorem dX2_folded_91 : decode cX2_folded 91 = .ok (.goto (-29), 3) := by decide +kernel
theorem dX2_folded_94 : decode cX2_folded 94 = .ok (.iinc 6 (-1), 3) := by decide +kernel
theorem dX2_folded_97 : decode cX2_folded 97 = .ok (.goto (-43), 3) := by decide +kernel
theorem dX2_folded_100 : decode cX2_folded 100 = .ok (.iinc 5 1, 3) := by decide +kernel
theorem dX2_folded_103 : decode cX2_folded 103 = .ok (.goto (-69), 3) := by decide +kernel
theorem dX2_folded_106 : decode cX2_folded 106 = .ok (.aload_n 0, 1) := by decide +kernel
theorem dX2_folded_107 : decode cX2_folded 107 = .ok (.iload_n 2, 1) := by decide +kernel
theorem dX2_folded_108 : decode cX2_folded 108 = .ok (.iload_n 3, 1) := by decide +kernel
theorem dX2_folded_109 : decode cX2_folded 109 = .ok (.invokevirtual 37, 3) := by decide +kernel
theorem dX2_folded_112 : decode cX2_folded 112 = .ok (.lreturn, 1) := by decide +kernel
theorem dX2_foldedWith_0 : decode cX2_foldedWith 0 = .ok (.ldc2_w 15, 3) := by decide +kernel
theorem dX2_foldedWith_3 : decode cX2_foldedWith 3 = .ok (.lstore 6, 2) := by decide +kernel
theorem dX2_foldedWith_5 : decode cX2_foldedWith 5 = .ok (.lconst 1, 1) := by decide +kernel
theorem dX2_foldedWith_6 : decode cX2_foldedWith 6 = .ok (.lstore 8, 2) := by decide +kernel
theorem dX2_foldedWith_8 : decode cX2_foldedWith 8 = .ok (.iconst 0, 1) := by decide +kernel
theorem dX2_foldedWith_9 : decode cX2_foldedWith 9 = .ok (.istore 10, 2) := by decide +kernel
theorem dX2_foldedWith_11 : decode cX2_foldedWith 11 = .ok (.iload 10, 2) := by decide +kernel
theorem dX2_foldedWith_13 : decode cX2_foldedWith 13 = .ok (.bipush 60, 2) := by decide +kernel
theorem dX2_foldedWith_15 : decode cX2_foldedWith 15 = .ok (.if_icmp .gt 151, 3) := by decide +kernel
theorem dX2_foldedWith_18 : decode cX2_foldedWith 18 = .ok (.aload 5, 2) := by decide +kernel
theorem dX2_foldedWith_20 : decode cX2_foldedWith 20 = .ok (.iload_n 1, 1) := by decide +kernel
theorem dX2_foldedWith_21 : decode cX2_foldedWith 21 = .ok (.invokevirtual 41, 3) := by decide +kernel
theorem dX2_foldedWith_24 : decode cX2_foldedWith 24 = .ok (.ifCond .eq 142, 3) := by decide +kernel
theorem dX2_foldedWith_27 : decode cX2_foldedWith 27 = .ok (.iload_n 3, 1) := by decide +kernel
theorem dX2_foldedWith_28 : decode cX2_foldedWith 28 = .ok (.iload 10, 2) := by decide +kernel
theorem dX2_foldedWith_30 : decode cX2_foldedWith 30 = .ok (.aload 5, 2) := by decide +kernel
theorem dX2_foldedWith_32 : decode cX2_foldedWith 32 = .ok (.getfield 45, 3) := by decide +kernel
theorem dX2_foldedWith_35 : decode cX2_foldedWith 35 = .ok (.iload_n 1, 1) := by decide +kernel
theorem dX2_foldedWith_36 : decode cX2_foldedWith 36 = .ok (.iaload, 1) := by decide +kernel
theorem dX2_foldedWith_37 : decode cX2_foldedWith 37 = .ok (.imul, 1) := by decide +kernel
theorem dX2_foldedWith_38 : decode cX2_foldedWith 38 = .ok (.isub, 1) := by decide +kernel
theorem dX2_foldedWith_39 : decode cX2_foldedWith 39 = .ok (.istore 11, 2) := by decide +kernel
theorem dX2_foldedWith_41 : decode cX2_foldedWith 41 = .ok (.iload 4, 2) := by decide +kernel
theorem dX2_foldedWith_43 : decode cX2_foldedWith 43 = .ok (.iload 10, 2) := by decide +kernel
theorem dX2_foldedWith_45 : decode cX2_foldedWith 45 = .ok (.aload 5, 2) := by decide +kernel
theorem dX2_foldedWith_47 : decode cX2_foldedWith 47 = .ok (.getfield 49, 3) := by decide +kernel
theorem dX2_foldedWith_50 : decode cX2_foldedWith 50 = .ok (.iload_n 1, 1) := by decide +kernel
theorem dX2_foldedWith_51 : decode cX2_foldedWith 51 = .ok (.iaload, 1) := by decide +kernel
theorem dX2_foldedWith_52 : decode cX2_foldedWith 52 = .ok (.imul, 1) := by decide +kernel
theorem dX2_foldedWith_53 : decode cX2_foldedWith 53 = .ok (.isub, 1) := by decide +kernel
theorem dX2_foldedWith_54 : decode cX2_foldedWith 54 = .ok (.istore 12, 2) := by decide +kernel
theorem dX2_foldedWith_56 : decode cX2_foldedWith 56 = .ok (.iload 11, 2) := by decide +kernel
theorem dX2_foldedWith_58 : decode cX2_foldedWith 58 = .ok (.ifCond .lt 108, 3) := by decide +kernel
theorem dX2_foldedWith_61 : decode cX2_foldedWith 61 = .ok (.iload 12, 2) := by decide +kernel
theorem dX2_foldedWith_63 : decode cX2_foldedWith 63 = .ok (.ifCond .ge 6, 3) := by decide +kernel
theorem dX2_foldedWith_66 : decode cX2_foldedWith 66 = .ok (.goto 100, 3) := by decide +kernel
theorem dX2_foldedWith_69 : decode cX2_foldedWith 69 = .ok (.aload_n 0, 1) := by decide +kernel
theorem dX2_foldedWith_70 : decode cX2_foldedWith 70 = .ok (.iload 11, 2) := by decide +kernel
theorem dX2_foldedWith_72 : decode cX2_foldedWith 72 = .ok (.iload 12, 2) := by decide +kernel
theorem dX2_foldedWith_74 : decode cX2_foldedWith 74 = .ok (.invokevirtual 37, 3) := by decide +kernel
theorem dX2_foldedWith_77 : decode cX2_foldedWith 77 = .ok (.lstore 13, 2) := by decide +kernel
theorem dX2_foldedWith_79 : decode cX2_foldedWith 79 = .ok (.lload 13, 2) := by decide +kernel
theorem dX2_foldedWith_81 : decode cX2_foldedWith 81 = .ok (.ldc2_w 15, 3) := by decide +kernel
theorem dX2_foldedWith_84 : decode cX2_foldedWith 84 = .ok (.lcmp, 1) := by decide +kernel
theorem dX2_foldedWith_85 : decode cX2_foldedWith 85 = .ok (.ifCond .eq 60, 3) := by decide +kernel
theorem dX2_foldedWith_88 : decode cX2_foldedWith 88 = .ok (.aload 5, 2) := by decide +kernel
theorem dX2_foldedWith_90 : decode cX2_foldedWith 90 = .ok (.iload_n 1, 1) := by decide +kernel
theorem dX2_foldedWith_91 : decode cX2_foldedWith 91 = .ok (.iload 10, 2) := by decide +kernel
theorem dX2_foldedWith_93 : decode cX2_foldedWith 93 = .ok (.invokevirtual 52, 3) := by decide +kernel
theorem dX2_foldedWith_96 : decode cX2_foldedWith 96 = .ok (.ifCond .eq 49, 3) := by decide +kernel
theorem dX2_foldedWith_99 : decode cX2_foldedWith 99 = .ok (.iload_n 2, 1) := by decide +kernel
theorem dX2_foldedWith_100 : decode cX2_foldedWith 100 = .ok (.iconst 1, 1) := by decide +kernel
theorem dX2_foldedWith_101 : decode cX2_foldedWith 101 = .ok (.if_icmp .eq 8, 3) := by decide +kernel
theorem dX2_foldedWith_104 : decode cX2_foldedWith 104 = .ok (.iload_n 2, 1) := by decide +kernel
theorem dX2_foldedWith_105 : decode cX2_foldedWith 105 = .ok (.iconst 2, 1) := by decide +kernel
theorem dX2_foldedWith_106 : decode cX2_foldedWith 106 = .ok (.if_icmp .ne 7, 3) := by decide +kernel
theorem dX2_foldedWith_109 : decode cX2_foldedWith 109 = .ok (.iconst 1, 1) := by decide +kernel
theorem dX2_foldedWith_110 : decode cX2_foldedWith 110 = .ok (.goto 4, 3) := by decide +kernel
theorem dX2_foldedWith_113 : decode cX2_foldedWith 113 = .ok (.iconst 0, 1) := by decide +kernel
theorem dX2_foldedWith_114 : decode cX2_foldedWith 114 = .ok (.istore 15, 2) := by decide +kernel
theorem dX2_foldedWith_116 : decode cX2_foldedWith 116 = .ok (.iload_n 2, 1) := by decide +kernel
theorem dX2_foldedWith_117 : decode cX2_foldedWith 117 = .ok (.lload 6, 2) := by decide +kernel
theorem dX2_foldedWith_119 : decode cX2_foldedWith 119 = .ok (.iload 15, 2) := by decide +kernel
theorem dX2_foldedWith_121 : decode cX2_foldedWith 121 = .ok (.ifCond .eq 12, 3) := by decide +kernel
theorem dX2_foldedWith_124 : decode cX2_foldedWith 124 = .ok (.lload 13, 2) := by decide +kernel
theorem dX2_foldedWith_126 : decode cX2_foldedWith 126 = .ok (.iload 10, 2) := by decide +kernel
theorem dX2_foldedWith_128 : decode cX2_foldedWith 128 = .ok (.i2l, 1) := by decide +kernel
theorem dX2_foldedWith_129 : decode cX2_foldedWith 129 = .ok (.ladd, 1) := by decide +kernel
theorem dX2_foldedWith_130 : decode cX2_foldedWith 130 = .ok (.goto 10, 3) := by decide +kernel
theorem dX2_foldedWith_133 : decode cX2_foldedWith 133 = .ok (.lload 13, 2) := by decide +kernel
theorem dX2_foldedWith_135 : decode cX2_foldedWith 135 = .ok (.lload 8, 2) := by decide +kernel
theorem dX2_foldedWith_137 : decode cX2_foldedWith 137 = .ok (.invokestatic 56, 3) := by decide +kernel
theorem dX2_foldedWith_140 : decode cX2_foldedWith 140 = .ok (.invokestatic 60, 3) := by decide +kernel
theorem dX2_foldedWith_143 : decode cX2_foldedWith 143 = .ok (.lstore 6, 2) := by decide +kernel
theorem dX2_foldedWith_145 : decode cX2_foldedWith 145 = .ok (.lload 8, 2) := by decide +kernel
theorem dX2_foldedWith_147 : decode cX2_foldedWith 147 = .ok (.aload 5, 2) := by decide +kernel
theorem dX2_foldedWith_149 : decode cX2_foldedWith 149 = .ok (.getfield 64, 3) := by decide +kernel
theorem dX2_foldedWith_152 : decode cX2_foldedWith 152 = .ok (.iload_n 1, 1) := by decide +kernel
theorem dX2_foldedWith_153 : decode cX2_foldedWith 153 = .ok (.iaload, 1) := by decide +kernel
theorem dX2_foldedWith_154 : decode cX2_foldedWith 154 = .ok (.i2l, 1) := by decide +kernel
theorem dX2_foldedWith_155 : decode cX2_foldedWith 155 = .ok (.invokestatic 56, 3) := by decide +kernel
theorem dX2_foldedWith_158 : decode cX2_foldedWith 158 = .ok (.lstore 8, 2) := by decide +kernel
theorem dX2_foldedWith_160 : decode cX2_foldedWith 160 = .ok (.iinc 10 1, 3) := by decide +kernel
theorem dX2_foldedWith_163 : decode cX2_foldedWith 163 = .ok (.goto (-152), 3) := by decide +kernel
theorem dX2_foldedWith_166 : decode cX2_foldedWith 166 = .ok (.lload 6, 2) := by decide +kernel
theorem dX2_foldedWith_168 : decode cX2_foldedWith 168 = .ok (.lreturn, 1) := by decide +kernel
theorem dX2_joined_0 : decode cX2_joined 0 = .ok (.lload_n 1, 1) := by decide +kernel
theorem dX2_joined_1 : decode cX2_joined 1 = .ok (.ldc2_w 15, 3) := by decide +kernel
theorem dX2_joined_4 : decode cX2_joined 4 = .ok (.lcmp, 1) := by decide +kernel
theorem dX2_joined_5 : decode cX2_joined 5 = .ok (.ifCond .ne 5, 3) := by decide +kernel
theorem dX2_joined_8 : decode cX2_joined 8 = .ok (.lload_n 3, 1) := by decide +kernel
theorem dX2_joined_9 : decode cX2_joined 9 = .ok (.lreturn, 1) := by decide +kernel
theorem dX2_joined_10 : decode cX2_joined 10 = .ok (.iload_n 0, 1) := by decide +kernel
theorem dX2_joined_11 : decode cX2_joined 11 = .ok (.iconst 2, 1) := by decide +kernel
theorem dX2_joined_12 : decode cX2_joined 12 = .ok (.if_icmp .ne 9, 3) := by decide +kernel
theorem dX2_joined_15 : decode cX2_joined 15 = .ok (.lload_n 1, 1) := by decide +kernel
theorem dX2_joined_16 : decode cX2_joined 16 = .ok (.lload_n 3, 1) := by decide +kernel
theorem dX2_joined_17 : decode cX2_joined 17 = .ok (.invokestatic 67, 3) := by decide +kernel
theorem dX2_joined_20 : decode cX2_joined 20 = .ok (.lreturn, 1) := by decide +kernel
theorem dX2_joined_21 : decode cX2_joined 21 = .ok (.lload_n 1, 1) := by decide +kernel
theorem dX2_joined_22 : decode cX2_joined 22 = .ok (.ldc2_w 72, 3) := by decide +kernel
theorem dX2_joined_25 : decode cX2_joined 25 = .ok (.lcmp, 1) := by decide +kernel
theorem dX2_joined_26 : decode cX2_joined 26 = .ok (.ifCond .eq 11, 3) := by decide +kernel
theorem dX2_joined_29 : decode cX2_joined 29 = .ok (.lload_n 3, 1) := by decide +kernel
theorem dX2_joined_30 : decode cX2_joined 30 = .ok (.ldc2_w 72, 3) := by decide +kernel
theorem dX2_joined_33 : decode cX2_joined 33 = .ok (.lcmp, 1) := by decide +kernel
theorem dX2_joined_34 : decode cX2_joined 34 = .ok (.ifCond .ne 7, 3) := by decide +kernel
theorem dX2_joined_37 : decode cX2_joined 37 = .ok (.ldc2_w 72, 3) := by decide +kernel
theorem dX2_joined_40 : decode cX2_joined 40 = .ok (.lreturn, 1) := by decide +kernel
theorem dX2_joined_41 : decode cX2_joined 41 = .ok (.iload_n 0, 1) := by decide +kernel
theorem dX2_joined_42 : decode cX2_joined 42 = .ok (.ifCond .ne 23, 3) := by decide +kernel
theorem dX2_joined_45 : decode cX2_joined 45 = .ok (.lload_n 1, 1) := by decide +kernel
theorem dX2_joined_46 : decode cX2_joined 46 = .ok (.ldc2_w 74, 3) := by decide +kernel
theorem dX2_joined_49 : decode cX2_joined 49 = .ok (.lload_n 3, 1) := by decide +kernel
theorem dX2_joined_50 : decode cX2_joined 50 = .ok (.lsub, 1) := by decide +kernel
theorem dX2_joined_51 : decode cX2_joined 51 = .ok (.lcmp, 1) := by decide +kernel
theorem dX2_joined_52 : decode cX2_joined 52 = .ok (.ifCond .le 9, 3) := by decide +kernel
theorem dX2_joined_55 : decode cX2_joined 55 = .ok (.ldc2_w 72, 3) := by decide +kernel
theorem dX2_joined_58 : decode cX2_joined 58 = .ok (.goto 6, 3) := by decide +kernel
theorem dX2_joined_61 : decode cX2_joined 61 = .ok (.lload_n 1, 1) := by decide +kernel
theorem dX2_joined_62 : decode cX2_joined 62 = .ok (.lload_n 3, 1) := by decide +kernel
theorem dX2_joined_63 : decode cX2_joined 63 = .ok (.ladd, 1) := by decide +kernel
theorem dX2_joined_64 : decode cX2_joined 64 = .ok (.lreturn, 1) := by decide +kernel
theorem dX2_joined_65 : decode cX2_joined 65 = .ok (.lload_n 1, 1) := by decide +kernel
theorem dX2_joined_66 : decode cX2_joined 66 = .ok (.lload_n 3, 1) := by decide +kernel
theorem dX2_joined_67 : decode cX2_joined 67 = .ok (.invokestatic 76, 3) := by decide +kernel
theorem dX2_joined_70 : decode cX2_joined 70 = .ok (.lreturn, 1) := by decide +kernel
theorem dX2_product_0 : decode cX2_product 0 = .ok (.lload_n 0, 1) := by decide +kernel
theorem dX2_product_1 : decode cX2_product 1 = .ok (.ldc2_w 72, 3) := by decide +kernel
theorem dX2_product_4 : decode cX2_product 4 = .ok (.lcmp, 1) := by decide +kernel
theorem dX2_product_5 : decode cX2_product 5 = .ok (.ifCond .eq 11, 3) := by decide +kernel
theorem dX2_product_8 : decode cX2_product 8 = .ok (.lload_n 2, 1) := by decide +kernel
theorem dX2_product_9 : decode cX2_product 9 = .ok (.ldc2_w 72, 3) := by decide +kernel
theorem dX2_product_12 : decode cX2_product 12 = .ok (.lcmp, 1) := by decide +kernel
theorem dX2_product_13 : decode cX2_product 13 = .ok (.ifCond .ne 7, 3) := by decide +kernel
theorem dX2_product_16 : decode cX2_product 16 = .ok (.ldc2_w 72, 3) := by decide +kernel
theorem dX2_product_19 : decode cX2_product 19 = .ok (.lreturn, 1) := by decide +kernel
theorem dX2_product_20 : decode cX2_product 20 = .ok (.lload_n 2, 1) := by decide +kernel
theorem dX2_product_21 : decode cX2_product 21 = .ok (.lconst 0, 1) := by decide +kernel
theorem dX2_product_22 : decode cX2_product 22 = .ok (.lcmp, 1) := by decide +kernel
theorem dX2_product_23 : decode cX2_product 23 = .ok (.ifCond .le 19, 3) := by decide +kernel
theorem dX2_product_26 : decode cX2_product 26 = .ok (.lload_n 0, 1) := by decide +kernel
theorem dX2_product_27 : decode cX2_product 27 = .ok (.ldc2_w 74, 3) := by decide +kernel
theorem dX2_product_30 : decode cX2_product 30 = .ok (.lload_n 2, 1) := by decide +kernel
theorem dX2_product_31 : decode cX2_product 31 = .ok (.ldiv, 1) := by decide +kernel
theorem dX2_product_32 : decode cX2_product 32 = .ok (.lcmp, 1) := by decide +kernel
theorem dX2_product_33 : decode cX2_product 33 = .ok (.ifCond .le 9, 3) := by decide +kernel
theorem dX2_product_36 : decode cX2_product 36 = .ok (.ldc2_w 72, 3) := by decide +kernel
theorem dX2_product_39 : decode cX2_product 39 = .ok (.goto 6, 3) := by decide +kernel
theorem dX2_product_42 : decode cX2_product 42 = .ok (.lload_n 0, 1) := by decide +kernel
theorem dX2_product_43 : decode cX2_product 43 = .ok (.lload_n 2, 1) := by decide +kernel
theorem dX2_product_44 : decode cX2_product 44 = .ok (.lmul, 1) := by decide +kernel
theorem dX2_product_45 : decode cX2_product 45 = .ok (.lreturn, 1) := by decide +kernel
theorem dX2_set_0 : decode cX2_set 0 = .ok (.iload_n 1, 1) := by decide +kernel
theorem dX2_set_1 : decode cX2_set 1 = .ok (.ifCond .lt 31, 3) := by decide +kernel
theorem dX2_set_4 : decode cX2_set 4 = .ok (.iload_n 1, 1) := by decide +kernel
theorem dX2_set_5 : decode cX2_set 5 = .ok (.bipush 31, 2) := by decide +kernel
theorem dX2_set_7 : decode cX2_set 7 = .ok (.if_icmp .ge 25, 3) := by decide +kernel
theorem dX2_set_10 : decode cX2_set 10 = .ok (.iload_n 2, 1) := by decide +kernel
theorem dX2_set_11 : decode cX2_set 11 = .ok (.ifCond .lt 21, 3) := by decide +kernel
theorem dX2_set_14 : decode cX2_set 14 = .ok (.iload_n 2, 1) := by decide +kernel
theorem dX2_set_15 : decode cX2_set 15 = .ok (.bipush 31, 2) := by decide +kernel
theorem dX2_set_17 : decode cX2_set 17 = .ok (.if_icmp .ge 15, 3) := by decide +kernel
theorem dX2_set_20 : decode cX2_set 20 = .ok (.aload_n 0, 1) := by decide +kernel
theorem dX2_set_21 : decode cX2_set 21 = .ok (.getfield 11, 3) := by decide +kernel
theorem dX2_set_24 : decode cX2_set 24 = .ok (.iload_n 1, 1) := by decide +kernel
theorem dX2_set_25 : decode cX2_set 25 = .ok (.bipush 31, 2) := by decide +kernel
theorem dX2_set_27 : decode cX2_set 27 = .ok (.imul, 1) := by decide +kernel
theorem dX2_set_28 : decode cX2_set 28 = .ok (.iload_n 2, 1) := by decide +kernel
theorem dX2_set_29 : decode cX2_set 29 = .ok (.iadd, 1) := by decide +kernel
theorem dX2_set_30 : decode cX2_set 30 = .ok (.lload_n 3, 1) := by decide +kernel
theorem dX2_set_31 : decode cX2_set 31 = .ok (.lastore, 1) := by decide +kernel
theorem dX2_set_32 : decode cX2_set 32 = .ok (.return_, 1) := by decide +kernel
theorem dX2_at_0 : decode cX2_at 0 = .ok (.iload_n 1, 1) := by decide +kernel
theorem dX2_at_1 : decode cX2_at 1 = .ok (.ifCond .lt 33, 3) := by decide +kernel
theorem dX2_at_4 : decode cX2_at 4 = .ok (.iload_n 1, 1) := by decide +kernel
theorem dX2_at_5 : decode cX2_at 5 = .ok (.bipush 31, 2) := by decide +kernel
theorem dX2_at_7 : decode cX2_at 7 = .ok (.if_icmp .ge 27, 3) := by decide +kernel
theorem dX2_at_10 : decode cX2_at 10 = .ok (.iload_n 2, 1) := by decide +kernel
theorem dX2_at_11 : decode cX2_at 11 = .ok (.ifCond .lt 23, 3) := by decide +kernel
theorem dX2_at_14 : decode cX2_at 14 = .ok (.iload_n 2, 1) := by decide +kernel
theorem dX2_at_15 : decode cX2_at 15 = .ok (.bipush 31, 2) := by decide +kernel
theorem dX2_at_17 : decode cX2_at 17 = .ok (.if_icmp .ge 17, 3) := by decide +kernel
theorem dX2_at_20 : decode cX2_at 20 = .ok (.aload_n 0, 1) := by decide +kernel
theorem dX2_at_21 : decode cX2_at 21 = .ok (.getfield 11, 3) := by decide +kernel
theorem dX2_at_24 : decode cX2_at 24 = .ok (.iload_n 1, 1) := by decide +kernel
theorem dX2_at_25 : decode cX2_at 25 = .ok (.bipush 31, 2) := by decide +kernel
theorem dX2_at_27 : decode cX2_at 27 = .ok (.imul, 1) := by decide +kernel
theorem dX2_at_28 : decode cX2_at 28 = .ok (.iload_n 2, 1) := by decide +kernel
theorem dX2_at_29 : decode cX2_at 29 = .ok (.iadd, 1) := by decide +kernel
theorem dX2_at_30 : decode cX2_at 30 = .ok (.laload, 1) := by decide +kernel
theorem dX2_at_31 : decode cX2_at 31 = .ok (.goto 6, 3) := by decide +kernel
theorem dX2_at_34 : decode cX2_at 34 = .ok (.ldc2_w 15, 3) := by decide +kernel
theorem dX2_at_37 : decode cX2_at 37 = .ok (.lreturn, 1) := by decide +kernel
theorem dX3_init_0 : decode cX3_init 0 = .ok (.aload_n 0, 1) := by decide +kernel
theorem dX3_init_1 : decode cX3_init 1 = .ok (.invokespecial 3, 3) := by decide +kernel
theorem dX3_init_4 : decode cX3_init 4 = .ok (.aload_n 0, 1) := by decide +kernel
theorem dX3_init_5 : decode cX3_init 5 = .ok (.bipush 25, 2) := by decide +kernel
theorem dX3_init_7 : decode cX3_init 7 = .ok (.newarray .long, 2) := by decide +kernel
theorem dX3_init_9 : decode cX3_init 9 = .ok (.putfield 11, 3) := by decide +kernel
theorem dX3_init_12 : decode cX3_init 12 = .ok (.aload_n 0, 1) := by decide +kernel
theorem dX3_init_13 : decode cX3_init 13 = .ok (.iconst 0, 1) := by decide +kernel
theorem dX3_init_14 : decode cX3_init 14 = .ok (.putfield 15, 3) := by decide +kernel
theorem dX3_init_17 : decode cX3_init 17 = .ok (.aload_n 0, 1) := by decide +kernel
theorem dX3_init_18 : decode cX3_init 18 = .ok (.iconst 0, 1) := by decide +kernel
theorem dX3_init_19 : decode cX3_init 19 = .ok (.putfield 19, 3) := by decide +kernel
theorem dX3_init_22 : decode cX3_init 22 = .ok (.aload_n 0, 1) := by decide +kernel
theorem dX3_init_23 : decode cX3_init 23 = .ok (.iconst 0, 1) := by decide +kernel
theorem dX3_init_24 : decode cX3_init 24 = .ok (.putfield 22, 3) := by decide +kernel
theorem dX3_init_27 : decode cX3_init 27 = .ok (.aload_n 0, 1) := by decide +kernel
theorem dX3_init_28 : decode cX3_init 28 = .ok (.iconst 0, 1) := by decide +kernel
theorem dX3_init_29 : decode cX3_init 29 = .ok (.putfield 25, 3) := by decide +kernel
theorem dX3_init_32 : decode cX3_init 32 = .ok (.aload_n 0, 1) := by decide +kernel
theorem dX3_init_33 : decode cX3_init 33 = .ok (.iconst 0, 1) := by decide +kernel
theorem dX3_init_34 : decode cX3_init 34 = .ok (.putfield 28, 3) := by decide +kernel
theorem dX3_init_37 : decode cX3_init 37 = .ok (.aload_n 0, 1) := by decide +kernel
theorem dX3_init_38 : decode cX3_init 38 = .ok (.iconst 0, 1) := by decide +kernel
theorem dX3_init_39 : decode cX3_init 39 = .ok (.putfield 31, 3) := by decide +kernel
theorem dX3_init_42 : decode cX3_init 42 = .ok (.aload_n 0, 1) := by decide +kernel
theorem dX3_init_43 : decode cX3_init 43 = .ok (.iconst 0, 1) := by decide +kernel
theorem dX3_init_44 : decode cX3_init 44 = .ok (.putfield 34, 3) := by decide +kernel
theorem dX3_init_47 : decode cX3_init 47 = .ok (.aload_n 0, 1) := by decide +kernel
theorem dX3_init_48 : decode cX3_init 48 = .ok (.iconst 0, 1) := by decide +kernel
theorem dX3_init_49 : decode cX3_init 49 = .ok (.putfield 37, 3) := by decide +kernel
theorem dX3_init_52 : decode cX3_init 52 = .ok (.return_, 1) := by decide +kernel
theorem dX3_locate_0 : decode cX3_locate 0 = .ok (.aload_n 1, 1) := by decide +kernel
theorem dX3_locate_1 : decode cX3_locate 1 = .ok (.getfield 40, 3) := by decide +kernel
theorem dX3_locate_4 : decode cX3_locate 4 = .ok (.aload_n 1, 1) := by decide +kernel
theorem dX3_locate_5 : decode cX3_locate 5 = .ok (.iload_n 2, 1) := by decide +kernel
theorem dX3_locate_6 : decode cX3_locate 6 = .ok (.invokevirtual 45, 3) := by decide +kernel
theorem dX3_locate_9 : decode cX3_locate 9 = .ok (.imul, 1) := by decide +kernel
theorem dX3_locate_10 : decode cX3_locate 10 = .ok (.istore 5, 2) := by decide +kernel
theorem dX3_locate_12 : decode cX3_locate 12 = .ok (.iload 5, 2) := by decide +kernel
theorem dX3_locate_14 : decode cX3_locate 14 = .ok (.iconst 1, 1) := by decide +kernel
theorem dX3_locate_15 : decode cX3_locate 15 = .ok (.if_icmp .lt 21, 3) := by decide +kernel
theorem dX3_locate_18 : decode cX3_locate 18 = .ok (.aload_n 1, 1) := by decide +kernel
theorem dX3_locate_19 : decode cX3_locate 19 = .ok (.iload_n 2, 1) := by decide +kernel
theorem dX3_locate_20 : decode cX3_locate 20 = .ok (.invokevirtual 49, 3) := by decide +kernel
theorem dX3_locate_23 : decode cX3_locate 23 = .ok (.ifCond .eq 13, 3) := by decide +kernel
theorem dX3_locate_26 : decode cX3_locate 26 = .ok (.aload_n 1, 1) := by decide +kernel
theorem dX3_locate_27 : decode cX3_locate 27 = .ok (.iload_n 2, 1) := by decide +kernel
theorem dX3_locate_28 : decode cX3_locate 28 = .ok (.iconst 1, 1) := by decide +kernel
theorem dX3_locate_29 : decode cX3_locate 29 = .ok (.iadd, 1) := by decide +kernel
theorem dX3_locate_30 : decode cX3_locate 30 = .ok (.invokevirtual 49, 3) := by decide +kernel
theorem dX3_locate_33 : decode cX3_locate 33 = .ok (.ifCond .ne 4, 3) := by decide +kernel
theorem dX3_locate_36 : decode cX3_locate 36 = .ok (.return_, 1) := by decide +kernel
theorem dX3_locate_37 : decode cX3_locate 37 = .ok (.aload_n 0, 1) := by decide +kernel
theorem dX3_locate_38 : decode cX3_locate 38 = .ok (.aload_n 1, 1) := by decide +kernel
theorem dX3_locate_39 : decode cX3_locate 39 = .ok (.getfield 40, 3) := by decide +kernel
theorem dX3_locate_42 : decode cX3_locate 42 = .ok (.aload_n 1, 1) := by decide +kernel
theorem dX3_locate_43 : decode cX3_locate 43 = .ok (.getfield 53, 3) := by decide +kernel
theorem dX3_locate_46 : decode cX3_locate 46 = .ok (.iload_n 2, 1) := by decide +kernel
theorem dX3_locate_47 : decode cX3_locate 47 = .ok (.iaload, 1) := by decide +kernel
theorem dX3_locate_48 : decode cX3_locate 48 = .ok (.imul, 1) := by decide +kernel
theorem dX3_locate_49 : decode cX3_locate 49 = .ok (.putfield 28, 3) := by decide +kernel
theorem dX3_locate_52 : decode cX3_locate 52 = .ok (.aload_n 0, 1) := by decide +kernel
theorem dX3_locate_53 : decode cX3_locate 53 = .ok (.aload_n 1, 1) := by decide +kernel
theorem dX3_locate_54 : decode cX3_locate 54 = .ok (.getfield 40, 3) := by decide +kernel
theorem dX3_locate_57 : decode cX3_locate 57 = .ok (.aload_n 1, 1) := by decide +kernel
theorem dX3_locate_58 : decode cX3_locate 58 = .ok (.getfield 57, 3) := by decide +kernel
theorem dX3_locate_61 : decode cX3_locate 61 = .ok (.iload_n 2, 1) := by decide +kernel
theorem dX3_locate_62 : decode cX3_locate 62 = .ok (.iaload, 1) := by decide +kernel
theorem dX3_locate_63 : decode cX3_locate 63 = .ok (.imul, 1) := by decide +kernel
theorem dX3_locate_64 : decode cX3_locate 64 = .ok (.putfield 31, 3) := by decide +kernel
theorem dX3_locate_67 : decode cX3_locate 67 = .ok (.aload_n 0, 1) := by decide +kernel
theorem dX3_locate_68 : decode cX3_locate 68 = .ok (.aload_n 1, 1) := by decide +kernel
theorem dX3_locate_69 : decode cX3_locate 69 = .ok (.getfield 40, 3) := by decide +kernel
theorem dX3_locate_72 : decode cX3_locate 72 = .ok (.aload_n 1, 1) := by decide +kernel
theorem dX3_locate_73 : decode cX3_locate 73 = .ok (.getfield 53, 3) := by decide +kernel
theorem dX3_locate_76 : decode cX3_locate 76 = .ok (.iload_n 2, 1) := by decide +kernel
theorem dX3_locate_77 : decode cX3_locate 77 = .ok (.iconst 1, 1) := by decide +kernel
theorem dX3_locate_78 : decode cX3_locate 78 = .ok (.iadd, 1) := by decide +kernel
theorem dX3_locate_79 : decode cX3_locate 79 = .ok (.iaload, 1) := by decide +kernel
theorem dX3_locate_80 : decode cX3_locate 80 = .ok (.imul, 1) := by decide +kernel
theorem dX3_locate_81 : decode cX3_locate 81 = .ok (.putfield 34, 3) := by decide +kernel
theorem dX3_locate_84 : decode cX3_locate 84 = .ok (.aload_n 0, 1) := by decide +kernel
theorem dX3_locate_85 : decode cX3_locate 85 = .ok (.aload_n 1, 1) := by decide +kernel
theorem dX3_locate_86 : decode cX3_locate 86 = .ok (.getfield 40, 3) := by decide +kernel
theorem dX3_locate_89 : decode cX3_locate 89 = .ok (.aload_n 1, 1) := by decide +kernel
theorem dX3_locate_90 : decode cX3_locate 90 = .ok (.getfield 57, 3) := by decide +kernel
theorem dX3_locate_93 : decode cX3_locate 93 = .ok (.iload_n 2, 1) := by decide +kernel
theorem dX3_locate_94 : decode cX3_locate 94 = .ok (.iconst 1, 1) := by decide +kernel
theorem dX3_locate_95 : decode cX3_locate 95 = .ok (.iadd, 1) := by decide +kernel
theorem dX3_locate_96 : decode cX3_locate 96 = .ok (.iaload, 1) := by decide +kernel
theorem dX3_locate_97 : decode cX3_locate 97 = .ok (.imul, 1) := by decide +kernel
theorem dX3_locate_98 : decode cX3_locate 98 = .ok (.putfield 37, 3) := by decide +kernel
theorem dX3_locate_101 : decode cX3_locate 101 = .ok (.aload_n 0, 1) := by decide +kernel
theorem dX3_locate_102 : decode cX3_locate 102 = .ok (.aload_n 1, 1) := by decide +kernel
theorem dX3_locate_103 : decode cX3_locate 103 = .ok (.iload_n 2, 1) := by decide +kernel
theorem dX3_locate_104 : decode cX3_locate 104 = .ok (.iload_n 3, 1) := by decide +kernel
theorem dX3_locate_105 : decode cX3_locate 105 = .ok (.iload 4, 2) := by decide +kernel
theorem dX3_locate_107 : decode cX3_locate 107 = .ok (.invokevirtual 60, 3) := by decide +kernel
theorem dX3_locate_110 : decode cX3_locate 110 = .ok (.iload 5, 2) := by decide +kernel
theorem dX3_locate_112 : decode cX3_locate 112 = .ok (.invokestatic 64, 3) := by decide +kernel
theorem dX3_locate_115 : decode cX3_locate 115 = .ok (.putfield 22, 3) := by decide +kernel
theorem dX3_locate_118 : decode cX3_locate 118 = .ok (.aload_n 0, 1) := by decide +kernel
theorem dX3_locate_119 : decode cX3_locate 119 = .ok (.aload_n 1, 1) := by decide +kernel
theorem dX3_locate_120 : decode cX3_locate 120 = .ok (.iload_n 2, 1) := by decide +kernel
theorem dX3_locate_121 : decode cX3_locate 121 = .ok (.iload_n 3, 1) := by decide +kernel
theorem dX3_locate_122 : decode cX3_locate 122 = .ok (.iload 4, 2) := by decide +kernel
theorem dX3_locate_124 : decode cX3_locate 124 = .ok (.invokevirtual 70, 3) := by decide +kernel
theorem dX3_locate_127 : decode cX3_locate 127 = .ok (.iload 5, 2) := by decide +kernel
theorem dX3_locate_129 : decode cX3_locate 129 = .ok (.invokestatic 64, 3) := by decide +kernel
theorem dX3_locate_132 : decode cX3_locate 132 = .ok (.putfield 25, 3) := by decide +kernel
theorem dX3_locate_135 : decode cX3_locate 135 = .ok (.aload_n 0, 1) := by decide +kernel
theorem dX3_locate_136 : decode cX3_locate 136 = .ok (.iload_n 3, 1) := by decide +kernel
theorem dX3_locate_137 : decode cX3_locate 137 = .ok (.aload_n 0, 1) := by decide +kernel
theorem dX3_locate_138 : decode cX3_locate 138 = .ok (.getfield 22, 3) := by decide +kernel
theorem dX3_locate_141 : decode cX3_locate 141 = .ok (.aload_n 0, 1) := by decide +kernel
theorem dX3_locate_142 : decode cX3_locate 142 = .ok (.getfield 28, 3) := by decide +kernel
theorem dX3_locate_145 : decode cX3_locate 145 = .ok (.imul, 1) := by decide +kernel
theorem dX3_locate_146 : decode cX3_locate 146 = .ok (.isub, 1) := by decide +kernel
theorem dX3_locate_147 : decode cX3_locate 147 = .ok (.aload_n 0, 1) := by decide +kernel
theorem dX3_locate_148 : decode cX3_locate 148 = .ok (.getfield 25, 3) := by decide +kernel
theorem dX3_locate_151 : decode cX3_locate 151 = .ok (.aload_n 0, 1) := by decide +kernel
theorem dX3_locate_152 : decode cX3_locate 152 = .ok (.getfield 34, 3) := by decide +kernel
theorem dX3_locate_155 : decode cX3_locate 155 = .ok (.imul, 1) := by decide +kernel
theorem dX3_locate_156 : decode cX3_locate 156 = .ok (.isub, 1) := by decide +kernel
theorem dX3_locate_157 : decode cX3_locate 157 = .ok (.putfield 15, 3) := by decide +kernel
theorem dX3_locate_160 : decode cX3_locate 160 = .ok (.aload_n 0, 1) := by decide +kernel
theorem dX3_locate_161 : decode cX3_locate 161 = .ok (.iload 4, 2) := by decide +kernel
theorem dX3_locate_163 : decode cX3_locate 163 = .ok (.aload_n 0, 1) := by decide +kernel
theorem dX3_locate_164 : decode cX3_locate 164 = .ok (.getfield 22, 3) := by decide +kernel
theorem dX3_locate_167 : decode cX3_locate 167 = .ok (.aload_n 0, 1) := by decide +kernel
theorem dX3_locate_168 : decode cX3_locate 168 = .ok (.getfield 31, 3) := by decide +kernel
theorem dX3_locate_171 : decode cX3_locate 171 = .ok (.imul, 1) := by decide +kernel
theorem dX3_locate_172 : decode cX3_locate 172 = .ok (.isub, 1) := by decide +kernel
theorem dX3_locate_173 : decode cX3_locate 173 = .ok (.aload_n 0, 1) := by decide +kernel
theorem dX3_locate_174 : decode cX3_locate 174 = .ok (.getfield 25, 3) := by decide +kernel
theorem dX3_locate_177 : decode cX3_locate 177 = .ok (.aload_n 0, 1) := by decide +kernel
theorem dX3_locate_178 : decode cX3_locate 178 = .ok (.getfield 37, 3) := by decide +kernel
theorem dX3_locate_181 : decode cX3_locate 181 = .ok (.imul, 1) := by decide +kernel
theorem dX3_locate_182 : decode cX3_locate 182 = .ok (.isub, 1) := by decide +kernel
theorem dX3_locate_183 : decode cX3_locate 183 = .ok (.putfield 19, 3) := by decide +kernel
theorem dX3_locate_186 : decode cX3_locate 186 = .ok (.return_, 1) := by decide +kernel
theorem dX3_farX_0 : decode cX3_farX 0 = .ok (.aload_n 0, 1) := by decide +kernel
theorem dX3_farX_1 : decode cX3_farX 1 = .ok (.getfield 28, 3) := by decide +kernel
theorem dX3_farX_4 : decode cX3_farX 4 = .ok (.aload_n 0, 1) := by decide +kernel
theorem dX3_farX_5 : decode cX3_farX 5 = .ok (.getfield 34, 3) := by decide +kernel
theorem dX3_farX_8 : decode cX3_farX 8 = .ok (.iadd, 1) := by decide +kernel
theorem dX3_farX_9 : decode cX3_farX 9 = .ok (.iload_n 1, 1) := by decide +kernel
theorem dX3_farX_10 : decode cX3_farX 10 = .ok (.aload_n 0, 1) := by decide +kernel
theorem dX3_farX_11 : decode cX3_farX 11 = .ok (.getfield 28, 3) := by decide +kernel
theorem dX3_farX_14 : decode cX3_farX 14 = .ok (.aload_n 0, 1) := by decide +kernel
theorem dX3_farX_15 : decode cX3_farX 15 = .ok (.getfield 34, 3) := by decide +kernel
theorem dX3_farX_18 : decode cX3_farX 18 = .ok (.invokestatic 73, 3) := by decide +kernel
theorem dX3_farX_21 : decode cX3_farX 21 = .ok (.imul, 1) := by decide +kernel
theorem dX3_farX_22 : decode cX3_farX 22 = .ok (.iadd, 1) := by decide +kernel
theorem dX3_farX_23 : decode cX3_farX 23 = .ok (.ireturn, 1) := by decide +kernel
theorem dX3_farY_0 : decode cX3_farY 0 = .ok (.aload_n 0, 1) := by decide +kernel
theorem dX3_farY_1 : decode cX3_farY 1 = .ok (.getfield 31, 3) := by decide +kernel
theorem dX3_farY_4 : decode cX3_farY 4 = .ok (.aload_n 0, 1) := by decide +kernel
theorem dX3_farY_5 : decode cX3_farY 5 = .ok (.getfield 37, 3) := by decide +kernel
theorem dX3_farY_8 : decode cX3_farY 8 = .ok (.iadd, 1) := by decide +kernel
theorem dX3_farY_9 : decode cX3_farY 9 = .ok (.iload_n 1, 1) := by decide +kernel
theorem dX3_farY_10 : decode cX3_farY 10 = .ok (.aload_n 0, 1) := by decide +kernel
theorem dX3_farY_11 : decode cX3_farY 11 = .ok (.getfield 31, 3) := by decide +kernel
theorem dX3_farY_14 : decode cX3_farY 14 = .ok (.aload_n 0, 1) := by decide +kernel
theorem dX3_farY_15 : decode cX3_farY 15 = .ok (.getfield 37, 3) := by decide +kernel
theorem dX3_farY_18 : decode cX3_farY 18 = .ok (.invokestatic 73, 3) := by decide +kernel
theorem dX3_farY_21 : decode cX3_farY 21 = .ok (.imul, 1) := by decide +kernel
theorem dX3_farY_22 : decode cX3_farY 22 = .ok (.iadd, 1) := by decide +kernel
theorem dX3_farY_23 : decode cX3_farY 23 = .ok (.ireturn, 1) := by decide +kernel
theorem dX3_readDifferences_0 : decode cX3_readDifferences 0 = .ok (.iconst 0, 1) := by decide +kernel
theorem dX3_readDifferences_1 : decode cX3_readDifferences 1 = .ok (.istore_n 3, 1) := by decide +kernel
theorem dX3_readDifferences_2 : decode cX3_readDifferences 2 = .ok (.iload_n 3, 1) := by decide +kernel
theorem dX3_readDifferences_3 : decode cX3_readDifferences 3 = .ok (.iload_n 1, 1) := by decide +kernel
theorem dX3_readDifferences_4 : decode cX3_readDifferences 4 = .ok (.if_icmp .gt 75, 3) := by decide +kernel
theorem dX3_readDifferences_7 : decode cX3_readDifferences 7 = .ok (.iconst 0, 1) := by decide +kernel
theorem dX3_readDifferences_8 : decode cX3_readDifferences 8 = .ok (.istore 4, 2) := by decide +kernel
theorem dX3_readDifferences_10 : decode cX3_readDifferences 10 = .ok (.iload_n 3, 1) := by decide +kernel
theorem dX3_readDifferences_11 : decode cX3_readDifferences 11 = .ok (.iload 4, 2) := by decide +kernel
theorem dX3_readDifferences_13 : decode cX3_readDifferences 13 = .ok (.iadd, 1) := by decide +kernel
theorem dX3_readDifferences_14 : decode cX3_readDifferences 14 = .ok (.iload_n 1, 1) := by decide +kernel
theorem dX3_readDifferences_15 : decode cX3_readDifferences 15 = .ok (.if_icmp .gt 58, 3) := by decide +kernel
theorem dX3_readDifferences_18 : decode cX3_readDifferences 18 = .ok (.aload_n 0, 1) := by decide +kernel
theorem dX3_readDifferences_19 : decode cX3_readDifferences 19 = .ok (.iload_n 3, 1) := by decide +kernel
theorem dX3_readDifferences_20 : decode cX3_readDifferences 20 = .ok (.iload 4, 2) := by decide +kernel
theorem dX3_readDifferences_22 : decode cX3_readDifferences 22 = .ok (.aload_n 2, 1) := by decide +kernel
theorem dX3_readDifferences_23 : decode cX3_readDifferences 23 = .ok (.aload_n 0, 1) := by decide +kernel
theorem dX3_readDifferences_24 : decode cX3_readDifferences 24 = .ok (.getfield 15, 3) := by decide +kernel
theorem dX3_readDifferences_27 : decode cX3_readDifferences 27 = .ok (.iload_n 3, 1) := by decide +kernel
theorem dX3_readDifferences_28 : decode cX3_readDifferences 28 = .ok (.aload_n 0, 1) := by decide +kernel
theorem dX3_readDifferences_29 : decode cX3_readDifferences 29 = .ok (.getfield 28, 3) := by decide +kernel
theorem dX3_readDifferences_32 : decode cX3_readDifferences 32 = .ok (.imul, 1) := by decide +kernel
theorem dX3_readDifferences_33 : decode cX3_readDifferences 33 = .ok (.iadd, 1) := by decide +kernel
theorem dX3_readDifferences_34 : decode cX3_readDifferences 34 = .ok (.iload 4, 2) := by decide +kernel
theorem dX3_readDifferences_36 : decode cX3_readDifferences 36 = .ok (.aload_n 0, 1) := by decide +kernel
theorem dX3_readDifferences_37 : decode cX3_readDifferences 37 = .ok (.getfield 34, 3) := by decide +kernel
theorem dX3_readDifferences_40 : decode cX3_readDifferences 40 = .ok (.imul, 1) := by decide +kernel
theorem dX3_readDifferences_41 : decode cX3_readDifferences 41 = .ok (.iadd, 1) := by decide +kernel
theorem dX3_readDifferences_42 : decode cX3_readDifferences 42 = .ok (.aload_n 0, 1) := by decide +kernel
theorem dX3_readDifferences_43 : decode cX3_readDifferences 43 = .ok (.getfield 19, 3) := by decide +kernel
theorem dX3_readDifferences_46 : decode cX3_readDifferences 46 = .ok (.iload_n 3, 1) := by decide +kernel
theorem dX3_readDifferences_47 : decode cX3_readDifferences 47 = .ok (.aload_n 0, 1) := by decide +kernel
theorem dX3_readDifferences_48 : decode cX3_readDifferences 48 = .ok (.getfield 31, 3) := by decide +kernel
theorem dX3_readDifferences_51 : decode cX3_readDifferences 51 = .ok (.imul, 1) := by decide +kernel
theorem dX3_readDifferences_52 : decode cX3_readDifferences 52 = .ok (.iadd, 1) := by decide +kernel
theorem dX3_readDifferences_53 : decode cX3_readDifferences 53 = .ok (.iload 4, 2) := by decide +kernel
theorem dX3_readDifferences_55 : decode cX3_readDifferences 55 = .ok (.aload_n 0, 1) := by decide +kernel
theorem dX3_readDifferences_56 : decode cX3_readDifferences 56 = .ok (.getfield 37, 3) := by decide +kernel
theorem dX3_readDifferences_59 : decode cX3_readDifferences 59 = .ok (.imul, 1) := by decide +kernel
theorem dX3_readDifferences_60 : decode cX3_readDifferences 60 = .ok (.iadd, 1) := by decide +kernel
theorem dX3_readDifferences_61 : decode cX3_readDifferences 61 = .ok (.invokevirtual 76, 3) := by decide +kernel
theorem dX3_readDifferences_64 : decode cX3_readDifferences 64 = .ok (.invokevirtual 82, 3) := by decide +kernel
theorem dX3_readDifferences_67 : decode cX3_readDifferences 67 = .ok (.iinc 4 1, 3) := by decide +kernel
theorem dX3_readDifferences_70 : decode cX3_readDifferences 70 = .ok (.goto (-60), 3) := by decide +kernel
theorem dX3_readDifferences_73 : decode cX3_readDifferences 73 = .ok (.iinc 3 1, 3) := by decide +kernel
theorem dX3_readDifferences_76 : decode cX3_readDifferences 76 = .ok (.goto (-74), 3) := by decide +kernel
theorem dX3_readDifferences_79 : decode cX3_readDifferences 79 = .ok (.iconst 1, 1) := by decide +kernel
theorem dX3_readDifferences_80 : decode cX3_readDifferences 80 = .ok (.istore_n 3, 1) := by decide +kernel
theorem dX3_readDifferences_81 : decode cX3_readDifferences 81 = .ok (.iload_n 3, 1) := by decide +kernel
theorem dX3_readDifferences_82 : decode cX3_readDifferences 82 = .ok (.iload_n 1, 1) := by decide +kernel
theorem dX3_readDifferences_83 : decode cX3_readDifferences 83 = .ok (.if_icmp .gt 69, 3) := by decide +kernel
theorem dX3_readDifferences_86 : decode cX3_readDifferences 86 = .ok (.iload_n 1, 1) := by decide +kernel
theorem dX3_readDifferences_87 : decode cX3_readDifferences 87 = .ok (.istore 4, 2) := by decide +kernel
theorem dX3_readDifferences_89 : decode cX3_readDifferences 89 = .ok (.iload 4, 2) := by decide +kernel
theorem dX3_readDifferences_91 : decode cX3_readDifferences 91 = .ok (.iload_n 3, 1) := by decide +kernel
theorem dX3_readDifferences_92 : decode cX3_readDifferences 92 = .ok (.if_icmp .lt 54, 3) := by decide +kernel
theorem dX3_readDifferences_95 : decode cX3_readDifferences 95 = .ok (.iconst 0, 1) := by decide +kernel
theorem dX3_readDifferences_96 : decode cX3_readDifferences 96 = .ok (.istore 5, 2) := by decide +kernel
theorem dX3_readDifferences_98 : decode cX3_readDifferences 98 = .ok (.iload 4, 2) := by decide +kernel
theorem dX3_readDifferences_100 : decode cX3_readDifferences 100 = .ok (.iload 5, 2) := by decide +kernel
theorem dX3_readDifferences_102 : decode cX3_readDifferences 102 = .ok (.iadd, 1) := by decide +kernel
theorem dX3_readDifferences_103 : decode cX3_readDifferences 103 = .ok (.iload_n 1, 1) := by decide +kernel
theorem dX3_readDifferences_104 : decode cX3_readDifferences 104 = .ok (.if_icmp .gt 36, 3) := by decide +kernel
theorem dX3_readDifferences_107 : decode cX3_readDifferences 107 = .ok (.aload_n 0, 1) := by decide +kernel
theorem dX3_readDifferences_108 : decode cX3_readDifferences 108 = .ok (.iload 4, 2) := by decide +kernel
theorem dX3_readDifferences_110 : decode cX3_readDifferences 110 = .ok (.iload 5, 2) := by decide +kernel
theorem dX3_readDifferences_112 : decode cX3_readDifferences 112 = .ok (.aload_n 0, 1) := by decide +kernel
theorem dX3_readDifferences_113 : decode cX3_readDifferences 113 = .ok (.iload 4, 2) := by decide +kernel
theorem dX3_readDifferences_115 : decode cX3_readDifferences 115 = .ok (.iload 5, 2) := by decide +kernel
theorem dX3_readDifferences_117 : decode cX3_readDifferences 117 = .ok (.invokevirtual 86, 3) := by decide +kernel
theorem dX3_readDifferences_120 : decode cX3_readDifferences 120 = .ok (.aload_n 0, 1) := by decide +kernel
theorem dX3_readDifferences_121 : decode cX3_readDifferences 121 = .ok (.iload 4, 2) := by decide +kernel
theorem dX3_readDifferences_123 : decode cX3_readDifferences 123 = .ok (.iconst 1, 1) := by decide +kernel
theorem dX3_readDifferences_124 : decode cX3_readDifferences 124 = .ok (.isub, 1) := by decide +kernel
theorem dX3_readDifferences_125 : decode cX3_readDifferences 125 = .ok (.iload 5, 2) := by decide +kernel
theorem dX3_readDifferences_127 : decode cX3_readDifferences 127 = .ok (.invokevirtual 86, 3) := by decide +kernel
theorem dX3_readDifferences_130 : decode cX3_readDifferences 130 = .ok (.lsub, 1) := by decide +kernel
theorem dX3_readDifferences_131 : decode cX3_readDifferences 131 = .ok (.invokevirtual 82, 3) := by decide +kernel
theorem dX3_readDifferences_134 : decode cX3_readDifferences 134 = .ok (.iinc 5 1, 3) := by decide +kernel
theorem dX3_readDifferences_137 : decode cX3_readDifferences 137 = .ok (.goto (-39), 3) := by decide +kernel
theorem dX3_readDifferences_140 : decode cX3_readDifferences 140 = .ok (.iinc 4 (-1), 3) := by decide +kernel
theorem dX3_readDifferences_143 : decode cX3_readDifferences 143 = .ok (.goto (-54), 3) := by decide +kernel
theorem dX3_readDifferences_146 : decode cX3_readDifferences 146 = .ok (.iinc 3 1, 3) := by decide +kernel
theorem dX3_readDifferences_149 : decode cX3_readDifferences 149 = .ok (.goto (-68), 3) := by decide +kernel
theorem dX3_readDifferences_152 : decode cX3_readDifferences 152 = .ok (.iconst 1, 1) := by decide +kernel
theorem dX3_readDifferences_153 : decode cX3_readDifferences 153 = .ok (.istore_n 3, 1) := by decide +kernel
theorem dX3_readDifferences_154 : decode cX3_readDifferences 154 = .ok (.iload_n 3, 1) := by decide +kernel
theorem dX3_readDifferences_155 : decode cX3_readDifferences 155 = .ok (.iload_n 1, 1) := by decide +kernel
theorem dX3_readDifferences_156 : decode cX3_readDifferences 156 = .ok (.if_icmp .gt 69, 3) := by decide +kernel
theorem dX3_readDifferences_159 : decode cX3_readDifferences 159 = .ok (.iload_n 1, 1) := by decide +kernel
theorem dX3_readDifferences_160 : decode cX3_readDifferences 160 = .ok (.istore 4, 2) := by decide +kernel
theorem dX3_readDifferences_162 : decode cX3_readDifferences 162 = .ok (.iload 4, 2) := by decide +kernel
theorem dX3_readDifferences_164 : decode cX3_readDifferences 164 = .ok (.iload_n 3, 1) := by decide +kernel
theorem dX3_readDifferences_165 : decode cX3_readDifferences 165 = .ok (.if_icmp .lt 54, 3) := by decide +kernel
theorem dX3_readDifferences_168 : decode cX3_readDifferences 168 = .ok (.iconst 0, 1) := by decide +kernel
theorem dX3_readDifferences_169 : decode cX3_readDifferences 169 = .ok (.istore 5, 2) := by decide +kernel
theorem dX3_readDifferences_171 : decode cX3_readDifferences 171 = .ok (.iload 5, 2) := by decide +kernel
theorem dX3_readDifferences_173 : decode cX3_readDifferences 173 = .ok (.iload 4, 2) := by decide +kernel
theorem dX3_readDifferences_175 : decode cX3_readDifferences 175 = .ok (.iadd, 1) := by decide +kernel
theorem dX3_readDifferences_176 : decode cX3_readDifferences 176 = .ok (.iload_n 1, 1) := by decide +kernel
theorem dX3_readDifferences_177 : decode cX3_readDifferences 177 = .ok (.if_icmp .gt 36, 3) := by decide +kernel
theorem dX3_readDifferences_180 : decode cX3_readDifferences 180 = .ok (.aload_n 0, 1) := by decide +kernel
theorem dX3_readDifferences_181 : decode cX3_readDifferences 181 = .ok (.iload 5, 2) := by decide +kernel
theorem dX3_readDifferences_183 : decode cX3_readDifferences 183 = .ok (.iload 4, 2) := by decide +kernel
theorem dX3_readDifferences_185 : decode cX3_readDifferences 185 = .ok (.aload_n 0, 1) := by decide +kernel
theorem dX3_readDifferences_186 : decode cX3_readDifferences 186 = .ok (.iload 5, 2) := by decide +kernel
theorem dX3_readDifferences_188 : decode cX3_readDifferences 188 = .ok (.iload 4, 2) := by decide +kernel
theorem dX3_readDifferences_190 : decode cX3_readDifferences 190 = .ok (.invokevirtual 86, 3) := by decide +kernel
theorem dX3_readDifferences_193 : decode cX3_readDifferences 193 = .ok (.aload_n 0, 1) := by decide +kernel
theorem dX3_readDifferences_194 : decode cX3_readDifferences 194 = .ok (.iload 5, 2) := by decide +kernel
theorem dX3_readDifferences_196 : decode cX3_readDifferences 196 = .ok (.iload 4, 2) := by decide +kernel
theorem dX3_readDifferences_198 : decode cX3_readDifferences 198 = .ok (.iconst 1, 1) := by decide +kernel
theorem dX3_readDifferences_199 : decode cX3_readDifferences 199 = .ok (.isub, 1) := by decide +kernel
theorem dX3_readDifferences_200 : decode cX3_readDifferences 200 = .ok (.invokevirtual 86, 3) := by decide +kernel
theorem dX3_readDifferences_203 : decode cX3_readDifferences 203 = .ok (.lsub, 1) := by decide +kernel
theorem dX3_readDifferences_204 : decode cX3_readDifferences 204 = .ok (.invokevirtual 82, 3) := by decide +kernel
theorem dX3_readDifferences_207 : decode cX3_readDifferences 207 = .ok (.iinc 5 1, 3) := by decide +kernel
theorem dX3_readDifferences_210 : decode cX3_readDifferences 210 = .ok (.goto (-39), 3) := by decide +kernel
theorem dX3_readDifferences_213 : decode cX3_readDifferences 213 = .ok (.iinc 4 (-1), 3) := by decide +kernel
theorem dX3_readDifferences_216 : decode cX3_readDifferences 216 = .ok (.goto (-54), 3) := by decide +kernel
theorem dX3_readDifferences_219 : decode cX3_readDifferences 219 = .ok (.iinc 3 1, 3) := by decide +kernel
theorem dX3_readDifferences_222 : decode cX3_readDifferences 222 = .ok (.goto (-68), 3) := by decide +kernel
theorem dX3_readDifferences_225 : decode cX3_readDifferences 225 = .ok (.return_, 1) := by decide +kernel
theorem dX3_told_0 : decode cX3_told 0 = .ok (.aload_n 0, 1) := by decide +kernel
theorem dX3_told_1 : decode cX3_told 1 = .ok (.iload_n 1, 1) := by decide +kernel
theorem dX3_told_2 : decode cX3_told 2 = .ok (.aload_n 2, 1) := by decide +kernel
theorem dX3_told_3 : decode cX3_told 3 = .ok (.invokevirtual 89, 3) := by decide +kernel
theorem dX3_told_6 : decode cX3_told 6 = .ok (.lconst 0, 1) := by decide +kernel
theorem dX3_told_7 : decode cX3_told 7 = .ok (.lstore_n 3, 1) := by decide +kernel
theorem dX3_told_8 : decode cX3_told 8 = .ok (.lconst 1, 1) := by decide +kernel
theorem dX3_told_9 : decode cX3_told 9 = .ok (.lstore 5, 2) := by decide +kernel
theorem dX3_told_11 : decode cX3_told 11 = .ok (.iconst 0, 1) := by decide +kernel
theorem dX3_told_12 : decode cX3_told 12 = .ok (.istore 7, 2) := by decide +kernel
theorem dX3_told_14 : decode cX3_told 14 = .ok (.iload 7, 2) := by decide +kernel
theorem dX3_told_16 : decode cX3_told 16 = .ok (.iload_n 1, 1) := by decide +kernel
theorem dX3_told_17 : decode cX3_told 17 = .ok (.if_icmp .gt 73, 3) := by decide +kernel
theorem dX3_told_20 : decode cX3_told 20 = .ok (.lconst 1, 1) := by decide +kernel
theorem dX3_told_21 : decode cX3_told 21 = .ok (.lstore 8, 2) := by decide +kernel
theorem dX3_told_23 : decode cX3_told 23 = .ok (.iconst 0, 1) := by decide +kernel
theorem dX3_told_24 : decode cX3_told 24 = .ok (.istore 10, 2) := by decide +kernel
theorem dX3_told_26 : decode cX3_told 26 = .ok (.iload 7, 2) := by decide +kernel
theorem dX3_told_28 : decode cX3_told 28 = .ok (.iload 10, 2) := by decide +kernel
theorem dX3_told_30 : decode cX3_told 30 = .ok (.iadd, 1) := by decide +kernel
theorem dX3_told_31 : decode cX3_told 31 = .ok (.iload_n 1, 1) := by decide +kernel
theorem dX3_told_32 : decode cX3_told 32 = .ok (.if_icmp .gt 39, 3) := by decide +kernel
theorem dX3_told_35 : decode cX3_told 35 = .ok (.lload_n 3, 1) := by decide +kernel
theorem dX3_told_36 : decode cX3_told 36 = .ok (.aload_n 0, 1) := by decide +kernel
theorem dX3_told_37 : decode cX3_told 37 = .ok (.iload 7, 2) := by decide +kernel
theorem dX3_told_39 : decode cX3_told 39 = .ok (.iload 10, 2) := by decide +kernel
theorem dX3_told_41 : decode cX3_told 41 = .ok (.invokevirtual 86, 3) := by decide +kernel
theorem dX3_told_44 : decode cX3_told 44 = .ok (.lload 5, 2) := by decide +kernel
theorem dX3_told_46 : decode cX3_told 46 = .ok (.lmul, 1) := by decide +kernel
theorem dX3_told_47 : decode cX3_told 47 = .ok (.lload 8, 2) := by decide +kernel
theorem dX3_told_49 : decode cX3_told 49 = .ok (.lmul, 1) := by decide +kernel
theorem dX3_told_50 : decode cX3_told 50 = .ok (.ladd, 1) := by decide +kernel
theorem dX3_told_51 : decode cX3_told 51 = .ok (.lstore_n 3, 1) := by decide +kernel
theorem dX3_told_52 : decode cX3_told 52 = .ok (.lload 8, 2) := by decide +kernel
theorem dX3_told_54 : decode cX3_told 54 = .ok (.aload_n 0, 1) := by decide +kernel
theorem dX3_told_55 : decode cX3_told 55 = .ok (.getfield 25, 3) := by decide +kernel
theorem dX3_told_58 : decode cX3_told 58 = .ok (.iload 10, 2) := by decide +kernel
theorem dX3_told_60 : decode cX3_told 60 = .ok (.invokestatic 93, 3) := by decide +kernel
theorem dX3_told_63 : decode cX3_told 63 = .ok (.lstore 8, 2) := by decide +kernel
theorem dX3_told_65 : decode cX3_told 65 = .ok (.iinc 10 1, 3) := by decide +kernel
theorem dX3_told_68 : decode cX3_told 68 = .ok (.goto (-42), 3) := by decide +kernel
theorem dX3_told_71 : decode cX3_told 71 = .ok (.lload 5, 2) := by decide +kernel
theorem dX3_told_73 : decode cX3_told 73 = .ok (.aload_n 0, 1) := by decide +kernel
theorem dX3_told_74 : decode cX3_told 74 = .ok (.getfield 22, 3) := by decide +kernel
theorem dX3_told_77 : decode cX3_told 77 = .ok (.iload 7, 2) := by decide +kernel
theorem dX3_told_79 : decode cX3_told 79 = .ok (.invokestatic 93, 3) := by decide +kernel
theorem dX3_told_82 : decode cX3_told 82 = .ok (.lstore 5, 2) := by decide +kernel
theorem dX3_told_84 : decode cX3_told 84 = .ok (.iinc 7 1, 3) := by decide +kernel
theorem dX3_told_87 : decode cX3_told 87 = .ok (.goto (-73), 3) := by decide +kernel
theorem dX3_told_90 : decode cX3_told 90 = .ok (.lload_n 3, 1) := by decide +kernel
theorem dX3_told_91 : decode cX3_told 91 = .ok (.lreturn, 1) := by decide +kernel
theorem dX3_chooseNext_0 : decode cX3_chooseNext 0 = .ok (.iload_n 3, 1) := by decide +kernel
theorem dX3_chooseNext_1 : decode cX3_chooseNext 1 = .ok (.ifCond .ge 7, 3) := by decide +kernel
theorem dX3_chooseNext_4 : decode cX3_chooseNext 4 = .ok (.lconst 0, 1) := by decide +kernel
theorem dX3_chooseNext_5 : decode cX3_chooseNext 5 = .ok (.goto 14, 3) := by decide +kernel
theorem dX3_chooseNext_8 : decode cX3_chooseNext 8 = .ok (.lload_n 0, 1) := by decide +kernel
theorem dX3_chooseNext_9 : decode cX3_chooseNext 9 = .ok (.iload_n 2, 1) := by decide +kernel
theorem dX3_chooseNext_10 : decode cX3_chooseNext 10 = .ok (.iload_n 3, 1) := by decide +kernel
theorem dX3_chooseNext_11 : decode cX3_chooseNext 11 = .ok (.isub, 1) := by decide +kernel
theorem dX3_chooseNext_12 : decode cX3_chooseNext 12 = .ok (.i2l, 1) := by decide +kernel
theorem dX3_chooseNext_13 : decode cX3_chooseNext 13 = .ok (.lmul, 1) := by decide +kernel
theorem dX3_chooseNext_14 : decode cX3_chooseNext 14 = .ok (.iload_n 3, 1) := by decide +kernel
theorem dX3_chooseNext_15 : decode cX3_chooseNext 15 = .ok (.iconst 1, 1) := by decide +kernel
theorem dX3_chooseNext_16 : decode cX3_chooseNext 16 = .ok (.iadd, 1) := by decide +kernel
theorem dX3_chooseNext_17 : decode cX3_chooseNext 17 = .ok (.i2l, 1) := by decide +kernel
theorem dX3_chooseNext_18 : decode cX3_chooseNext 18 = .ok (.ldiv, 1) := by decide +kernel
theorem dX3_chooseNext_19 : decode cX3_chooseNext 19 = .ok (.lreturn, 1) := by decide +kernel
theorem dX3_set_0 : decode cX3_set 0 = .ok (.iload_n 1, 1) := by decide +kernel
theorem dX3_set_1 : decode cX3_set 1 = .ok (.ifCond .lt 28, 3) := by decide +kernel
theorem dX3_set_4 : decode cX3_set 4 = .ok (.iload_n 1, 1) := by decide +kernel
theorem dX3_set_5 : decode cX3_set 5 = .ok (.iconst 5, 1) := by decide +kernel
theorem dX3_set_6 : decode cX3_set 6 = .ok (.if_icmp .ge 23, 3) := by decide +kernel
theorem dX3_set_9 : decode cX3_set 9 = .ok (.iload_n 2, 1) := by decide +kernel
theorem dX3_set_10 : decode cX3_set 10 = .ok (.ifCond .lt 19, 3) := by decide +kernel
theorem dX3_set_13 : decode cX3_set 13 = .ok (.iload_n 2, 1) := by decide +kernel
theorem dX3_set_14 : decode cX3_set 14 = .ok (.iconst 5, 1) := by decide +kernel
theorem dX3_set_15 : decode cX3_set 15 = .ok (.if_icmp .ge 14, 3) := by decide +kernel
theorem dX3_set_18 : decode cX3_set 18 = .ok (.aload_n 0, 1) := by decide +kernel
theorem dX3_set_19 : decode cX3_set 19 = .ok (.getfield 11, 3) := by decide +kernel
theorem dX3_set_22 : decode cX3_set 22 = .ok (.iload_n 1, 1) := by decide +kernel
theorem dX3_set_23 : decode cX3_set 23 = .ok (.iconst 5, 1) := by decide +kernel
theorem dX3_set_24 : decode cX3_set 24 = .ok (.imul, 1) := by decide +kernel
theorem dX3_set_25 : decode cX3_set 25 = .ok (.iload_n 2, 1) := by decide +kernel
theorem dX3_set_26 : decode cX3_set 26 = .ok (.iadd, 1) := by decide +kernel
theorem dX3_set_27 : decode cX3_set 27 = .ok (.lload_n 3, 1) := by decide +kernel
theorem dX3_set_28 : decode cX3_set 28 = .ok (.lastore, 1) := by decide +kernel
theorem dX3_set_29 : decode cX3_set 29 = .ok (.return_, 1) := by decide +kernel
theorem dX3_differenceAt_0 : decode cX3_differenceAt 0 = .ok (.iload_n 1, 1) := by decide +kernel
theorem dX3_differenceAt_1 : decode cX3_differenceAt 1 = .ok (.ifCond .lt 30, 3) := by decide +kernel
theorem dX3_differenceAt_4 : decode cX3_differenceAt 4 = .ok (.iload_n 1, 1) := by decide +kernel
theorem dX3_differenceAt_5 : decode cX3_differenceAt 5 = .ok (.iconst 5, 1) := by decide +kernel
theorem dX3_differenceAt_6 : decode cX3_differenceAt 6 = .ok (.if_icmp .ge 25, 3) := by decide +kernel
theorem dX3_differenceAt_9 : decode cX3_differenceAt 9 = .ok (.iload_n 2, 1) := by decide +kernel
theorem dX3_differenceAt_10 : decode cX3_differenceAt 10 = .ok (.ifCond .lt 21, 3) := by decide +kernel
theorem dX3_differenceAt_13 : decode cX3_differenceAt 13 = .ok (.iload_n 2, 1) := by decide +kernel
theorem dX3_differenceAt_14 : decode cX3_differenceAt 14 = .ok (.iconst 5, 1) := by decide +kernel
theorem dX3_differenceAt_15 : decode cX3_differenceAt 15 = .ok (.if_icmp .ge 16, 3) := by decide +kernel
theorem dX3_differenceAt_18 : decode cX3_differenceAt 18 = .ok (.aload_n 0, 1) := by decide +kernel
theorem dX3_differenceAt_19 : decode cX3_differenceAt 19 = .ok (.getfield 11, 3) := by decide +kernel
theorem dX3_differenceAt_22 : decode cX3_differenceAt 22 = .ok (.iload_n 1, 1) := by decide +kernel
theorem dX3_differenceAt_23 : decode cX3_differenceAt 23 = .ok (.iconst 5, 1) := by decide +kernel
theorem dX3_differenceAt_24 : decode cX3_differenceAt 24 = .ok (.imul, 1) := by decide +kernel
theorem dX3_differenceAt_25 : decode cX3_differenceAt 25 = .ok (.iload_n 2, 1) := by decide +kernel
theorem dX3_differenceAt_26 : decode cX3_differenceAt 26 = .ok (.iadd, 1) := by decide +kernel
theorem dX3_differenceAt_27 : decode cX3_differenceAt 27 = .ok (.laload, 1) := by decide +kernel
theorem dX3_differenceAt_28 : decode cX3_differenceAt 28 = .ok (.goto 4, 3) := by decide +kernel
theorem dX3_differenceAt_31 : decode cX3_differenceAt 31 = .ok (.lconst 0, 1) := by decide +kernel
theorem dX3_differenceAt_32 : decode cX3_differenceAt 32 = .ok (.lreturn, 1) := by decide +kernel
theorem dX4_init_0 : decode cX4_init 0 = .ok (.aload_n 0, 1) := by decide +kernel
theorem dX4_init_1 : decode cX4_init 1 = .ok (.invokespecial 3, 3) := by decide +kernel
theorem dX4_init_4 : decode cX4_init 4 = .ok (.aload_n 0, 1) := by decide +kernel
theorem dX4_init_5 : decode cX4_init 5 = .ok (.sipush 20736, 3) := by decide +kernel
theorem dX4_init_8 : decode cX4_init 8 = .ok (.newarray .long, 2) := by decide +kernel
theorem dX4_init_10 : decode cX4_init 10 = .ok (.putfield 11, 3) := by decide +kernel
theorem dX4_init_13 : decode cX4_init 13 = .ok (.aload_n 0, 1) := by decide +kernel
theorem dX4_init_14 : decode cX4_init 14 = .ok (.iconst (-1), 1) := by decide +kernel
theorem dX4_init_15 : decode cX4_init 15 = .ok (.putfield 15, 3) := by decide +kernel
theorem dX4_init_18 : decode cX4_init 18 = .ok (.aload_n 0, 1) := by decide +kernel
theorem dX4_init_19 : decode cX4_init 19 = .ok (.iconst (-1), 1) := by decide +kernel
theorem dX4_init_20 : decode cX4_init 20 = .ok (.putfield 19, 3) := by decide +kernel
theorem dX4_init_23 : decode cX4_init 23 = .ok (.return_, 1) := by decide +kernel
theorem dX4_forget_0 : decode cX4_forget 0 = .ok (.aload_n 0, 1) := by decide +kernel
theorem dX4_forget_1 : decode cX4_forget 1 = .ok (.iconst (-1), 1) := by decide +kernel
theorem dX4_forget_2 : decode cX4_forget 2 = .ok (.putfield 15, 3) := by decide +kernel
theorem dX4_forget_5 : decode cX4_forget 5 = .ok (.aload_n 0, 1) := by decide +kernel
theorem dX4_forget_6 : decode cX4_forget 6 = .ok (.iconst (-1), 1) := by decide +kernel
theorem dX4_forget_7 : decode cX4_forget 7 = .ok (.putfield 19, 3) := by decide +kernel
theorem dX4_forget_10 : decode cX4_forget 10 = .ok (.return_, 1) := by decide +kernel
theorem dX4_reach_0 : decode cX4_reach 0 = .ok (.iload_n 1, 1) := by decide +kernel
theorem dX4_reach_1 : decode cX4_reach 1 = .ok (.aload_n 0, 1) := by decide +kernel
theorem dX4_reach_2 : decode cX4_reach 2 = .ok (.getfield 15, 3) := by decide +kernel
theorem dX4_reach_5 : decode cX4_reach 5 = .ok (.if_icmp .gt 12, 3) := by decide +kernel
theorem dX4_reach_8 : decode cX4_reach 8 = .ok (.iload_n 2, 1) := by decide +kernel
theorem dX4_reach_9 : decode cX4_reach 9 = .ok (.aload_n 0, 1) := by decide +kernel
theorem dX4_reach_10 : decode cX4_reach 10 = .ok (.getfield 19, 3) := by decide +kernel
theorem dX4_reach_13 : decode cX4_reach 13 = .ok (.if_icmp .gt 4, 3) := by decide +kernel
theorem dX4_reach_16 : decode cX4_reach 16 = .ok (.return_, 1) := by decide +kernel
theorem dX4_reach_17 : decode cX4_reach 17 = .ok (.aload_n 0, 1) := by decide +kernel
theorem dX4_reach_18 : decode cX4_reach 18 = .ok (.iload_n 1, 1) := by decide +kernel
theorem dX4_reach_19 : decode cX4_reach 19 = .ok (.aload_n 0, 1) := by decide +kernel
theorem dX4_reach_20 : decode cX4_reach 20 = .ok (.getfield 15, 3) := by decide +kernel
theorem dX4_reach_23 : decode cX4_reach 23 = .ok (.invokestatic 22, 3) := by decide +kernel
theorem dX4_reach_26 : decode cX4_reach 26 = .ok (.sipush 143, 3) := by decide +kernel
theorem dX4_reach_29 : decode cX4_reach 29 = .ok (.invokestatic 28, 3) := by decide +kernel
theorem dX4_reach_32 : decode cX4_reach 32 = .ok (.putfield 15, 3) := by decide +kernel
theorem dX4_reach_35 : decode cX4_reach 35 = .ok (.aload_n 0, 1) := by decide +kernel
theorem dX4_reach_36 : decode cX4_reach 36 = .ok (.iload_n 2, 1) := by decide +kernel
theorem dX4_reach_37 : decode cX4_reach 37 = .ok (.aload_n 0, 1) := by decide +kernel
theorem dX4_reach_38 : decode cX4_reach 38 = .ok (.getfield 19, 3) := by decide +kernel
theorem dX4_reach_41 : decode cX4_reach 41 = .ok (.invokestatic 22, 3) := by decide +kernel
theorem dX4_reach_44 : decode cX4_reach 44 = .ok (.sipush 143, 3) := by decide +kernel
theorem dX4_reach_47 : decode cX4_reach 47 = .ok (.invokestatic 28, 3) := by decide +kernel
theorem dX4_reach_50 : decode cX4_reach 50 = .ok (.putfield 19, 3) := by decide +kernel
theorem dX4_reach_53 : decode cX4_reach 53 = .ok (.aload_n 0, 1) := by decide +kernel
theorem dX4_reach_54 : decode cX4_reach 54 = .ok (.invokevirtual 31, 3) := by decide +kernel
theorem dX4_reach_57 : decode cX4_reach 57 = .ok (.iconst 0, 1) := by decide +kernel
theorem dX4_reach_58 : decode cX4_reach 58 = .ok (.istore 4, 2) := by decide +kernel
theorem dX4_reach_60 : decode cX4_reach 60 = .ok (.iload 4, 2) := by decide +kernel
theorem dX4_reach_62 : decode cX4_reach 62 = .ok (.aload_n 3, 1) := by decide +kernel
theorem dX4_reach_63 : decode cX4_reach 63 = .ok (.getfield 34, 3) := by decide +kernel
theorem dX4_reach_66 : decode cX4_reach 66 = .ok (.if_icmp .ge 34, 3) := by decide +kernel
theorem dX4_reach_69 : decode cX4_reach 69 = .ok (.iload 4, 2) := by decide +kernel
theorem dX4_reach_71 : decode cX4_reach 71 = .ok (.bipush 6, 2) := by decide +kernel
theorem dX4_reach_73 : decode cX4_reach 73 = .ok (.if_icmp .ge 27, 3) := by decide +kernel
theorem dX4_reach_76 : decode cX4_reach 76 = .ok (.aload_n 0, 1) := by decide +kernel
theorem dX4_reach_77 : decode cX4_reach 77 = .ok (.aload_n 3, 1) := by decide +kernel
theorem dX4_reach_78 : decode cX4_reach 78 = .ok (.getfield 39, 3) := by decide +kernel
theorem dX4_reach_81 : decode cX4_reach 81 = .ok (.iload 4, 2) := by decide +kernel
theorem dX4_reach_83 : decode cX4_reach 83 = .ok (.iaload, 1) := by decide +kernel
theorem dX4_reach_84 : decode cX4_reach 84 = .ok (.aload_n 3, 1) := by decide +kernel
theorem dX4_reach_85 : decode cX4_reach 85 = .ok (.getfield 43, 3) := by decide +kernel
theorem dX4_reach_88 : decode cX4_reach 88 = .ok (.iload 4, 2) := by decide +kernel
theorem dX4_reach_90 : decode cX4_reach 90 = .ok (.iaload, 1) := by decide +kernel
theorem dX4_reach_91 : decode cX4_reach 91 = .ok (.invokevirtual 46, 3) := by decide +kernel
theorem dX4_reach_94 : decode cX4_reach 94 = .ok (.iinc 4 1, 3) := by decide +kernel
theorem dX4_reach_97 : decode cX4_reach 97 = .ok (.goto (-37), 3) := by decide +kernel
theorem dX4_reach_100 : decode cX4_reach 100 = .ok (.return_, 1) := by decide +kernel
theorem dX4_begin_0 : decode cX4_begin 0 = .ok (.iconst 0, 1) := by decide +kernel
theorem dX4_begin_1 : decode cX4_begin 1 = .ok (.istore_n 1, 1) := by decide +kernel
theorem dX4_begin_2 : decode cX4_begin 2 = .ok (.iload_n 1, 1) := by decide +kernel
theorem dX4_begin_3 : decode cX4_begin 3 = .ok (.aload_n 0, 1) := by decide +kernel
theorem dX4_begin_4 : decode cX4_begin 4 = .ok (.getfield 15, 3) := by decide +kernel
theorem dX4_begin_7 : decode cX4_begin 7 = .ok (.if_icmp .gt 52, 3) := by decide +kernel
theorem dX4_begin_10 : decode cX4_begin 10 = .ok (.iload_n 1, 1) := by decide +kernel
theorem dX4_begin_11 : decode cX4_begin 11 = .ok (.sipush 144, 3) := by decide +kernel
theorem dX4_begin_14 : decode cX4_begin 14 = .ok (.if_icmp .ge 45, 3) := by decide +kernel
theorem dX4_begin_17 : decode cX4_begin 17 = .ok (.iconst 0, 1) := by decide +kernel
theorem dX4_begin_18 : decode cX4_begin 18 = .ok (.istore_n 2, 1) := by decide +kernel
theorem dX4_begin_19 : decode cX4_begin 19 = .ok (.iload_n 2, 1) := by decide +kernel
theorem dX4_begin_20 : decode cX4_begin 20 = .ok (.aload_n 0, 1) := by decide +kernel
theorem dX4_begin_21 : decode cX4_begin 21 = .ok (.getfield 19, 3) := by decide +kernel
theorem dX4_begin_24 : decode cX4_begin 24 = .ok (.if_icmp .gt 29, 3) := by decide +kernel
theorem dX4_begin_27 : decode cX4_begin 27 = .ok (.iload_n 2, 1) := by decide +kernel
theorem dX4_begin_28 : decode cX4_begin 28 = .ok (.sipush 144, 3) := by decide +kernel
theorem dX4_begin_31 : decode cX4_begin 31 = .ok (.if_icmp .ge 22, 3) := by decide +kernel
theorem dX4_begin_34 : decode cX4_begin 34 = .ok (.aload_n 0, 1) := by decide +kernel
theorem dX4_begin_35 : decode cX4_begin 35 = .ok (.getfield 11, 3) := by decide +kernel
theorem dX4_begin_38 : decode cX4_begin 38 = .ok (.iload_n 1, 1) := by decide +kernel
theorem dX4_begin_39 : decode cX4_begin 39 = .ok (.sipush 144, 3) := by decide +kernel
theorem dX4_begin_42 : decode cX4_begin 42 = .ok (.imul, 1) := by decide +kernel
theorem dX4_begin_43 : decode cX4_begin 43 = .ok (.iload_n 2, 1) := by decide +kernel
theorem dX4_begin_44 : decode cX4_begin 44 = .ok (.iadd, 1) := by decide +kernel
theorem dX4_begin_45 : decode cX4_begin 45 = .ok (.lconst 0, 1) := by decide +kernel
theorem dX4_begin_46 : decode cX4_begin 46 = .ok (.lastore, 1) := by decide +kernel
theorem dX4_begin_47 : decode cX4_begin 47 = .ok (.iinc 2 1, 3) := by decide +kernel
theorem dX4_begin_50 : decode cX4_begin 50 = .ok (.goto (-31), 3) := by decide +kernel
theorem dX4_begin_53 : decode cX4_begin 53 = .ok (.iinc 1 1, 3) := by decide +kernel
theorem dX4_begin_56 : decode cX4_begin 56 = .ok (.goto (-54), 3) := by decide +kernel
theorem dX4_begin_59 : decode cX4_begin 59 = .ok (.aload_n 0, 1) := by decide +kernel
theorem dX4_begin_60 : decode cX4_begin 60 = .ok (.getfield 11, 3) := by decide +kernel
theorem dX4_begin_63 : decode cX4_begin 63 = .ok (.iconst 0, 1) := by decide +kernel
theorem dX4_begin_64 : decode cX4_begin 64 = .ok (.lconst 1, 1) := by decide +kernel
theorem dX4_begin_65 : decode cX4_begin 65 = .ok (.lastore, 1) := by decide +kernel
theorem dX4_begin_66 : decode cX4_begin 66 = .ok (.return_, 1) := by decide +kernel
theorem dX4_add_0 : decode cX4_add 0 = .ok (.iload_n 1, 1) := by decide +kernel
theorem dX4_add_1 : decode cX4_add 1 = .ok (.iconst 0, 1) := by decide +kernel
theorem dX4_add_2 : decode cX4_add 2 = .ok (.invokestatic 22, 3) := by decide +kernel
theorem dX4_add_5 : decode cX4_add 5 = .ok (.istore_n 3, 1) := by decide +kernel
theorem dX4_add_6 : decode cX4_add 6 = .ok (.iload_n 3, 1) := by decide +kernel
theorem dX4_add_7 : decode cX4_add 7 = .ok (.aload_n 0, 1) := by decide +kernel
theorem dX4_add_8 : decode cX4_add 8 = .ok (.getfield 15, 3) := by decide +kernel
theorem dX4_add_11 : decode cX4_add 11 = .ok (.if_icmp .gt 73, 3) := by decide +kernel
theorem dX4_add_14 : decode cX4_add 14 = .ok (.iload_n 3, 1) := by decide +kernel
theorem dX4_add_15 : decode cX4_add 15 = .ok (.sipush 144, 3) := by decide +kernel
theorem dX4_add_18 : decode cX4_add 18 = .ok (.if_icmp .ge 66, 3) := by decide +kernel
theorem dX4_add_21 : decode cX4_add 21 = .ok (.iload_n 2, 1) := by decide +kernel
theorem dX4_add_22 : decode cX4_add 22 = .ok (.iconst 0, 1) := by decide +kernel
theorem dX4_add_23 : decode cX4_add 23 = .ok (.invokestatic 22, 3) := by decide +kernel
theorem dX4_add_26 : decode cX4_add 26 = .ok (.istore 4, 2) := by decide +kernel
theorem dX4_add_28 : decode cX4_add 28 = .ok (.iload 4, 2) := by decide +kernel
theorem dX4_add_30 : decode cX4_add 30 = .ok (.aload_n 0, 1) := by decide +kernel
theorem dX4_add_31 : decode cX4_add 31 = .ok (.getfield 19, 3) := by decide +kernel
theorem dX4_add_34 : decode cX4_add 34 = .ok (.if_icmp .gt 44, 3) := by decide +kernel
theorem dX4_add_37 : decode cX4_add 37 = .ok (.iload 4, 2) := by decide +kernel
theorem dX4_add_39 : decode cX4_add 39 = .ok (.sipush 144, 3) := by decide +kernel
theorem dX4_add_42 : decode cX4_add 42 = .ok (.if_icmp .ge 36, 3) := by decide +kernel
theorem dX4_add_45 : decode cX4_add 45 = .ok (.aload_n 0, 1) := by decide +kernel
theorem dX4_add_46 : decode cX4_add 46 = .ok (.getfield 11, 3) := by decide +kernel
theorem dX4_add_49 : decode cX4_add 49 = .ok (.iload_n 3, 1) := by decide +kernel
theorem dX4_add_50 : decode cX4_add 50 = .ok (.sipush 144, 3) := by decide +kernel
theorem dX4_add_53 : decode cX4_add 53 = .ok (.imul, 1) := by decide +kernel
theorem dX4_add_54 : decode cX4_add 54 = .ok (.iload 4, 2) := by decide +kernel
theorem dX4_add_56 : decode cX4_add 56 = .ok (.iadd, 1) := by decide +kernel
theorem dX4_add_57 : decode cX4_add 57 = .ok (.dup2, 1) := by decide +kernel
theorem dX4_add_58 : decode cX4_add 58 = .ok (.laload, 1) := by decide +kernel
theorem dX4_add_59 : decode cX4_add 59 = .ok (.aload_n 0, 1) := by decide +kernel
theorem dX4_add_60 : decode cX4_add 60 = .ok (.iload_n 3, 1) := by decide +kernel
theorem dX4_add_61 : decode cX4_add 61 = .ok (.iload_n 1, 1) := by decide +kernel
theorem dX4_add_62 : decode cX4_add 62 = .ok (.isub, 1) := by decide +kernel
theorem dX4_add_63 : decode cX4_add 63 = .ok (.iload 4, 2) := by decide +kernel
theorem dX4_add_65 : decode cX4_add 65 = .ok (.iload_n 2, 1) := by decide +kernel
theorem dX4_add_66 : decode cX4_add 66 = .ok (.isub, 1) := by decide +kernel
theorem dX4_add_67 : decode cX4_add 67 = .ok (.invokevirtual 50, 3) := by decide +kernel
theorem dX4_add_70 : decode cX4_add 70 = .ok (.ladd, 1) := by decide +kernel
theorem dX4_add_71 : decode cX4_add 71 = .ok (.lastore, 1) := by decide +kernel
theorem dX4_add_72 : decode cX4_add 72 = .ok (.iinc 4 1, 3) := by decide +kernel
theorem dX4_add_75 : decode cX4_add 75 = .ok (.goto (-47), 3) := by decide +kernel
theorem dX4_add_78 : decode cX4_add 78 = .ok (.iinc 3 1, 3) := by decide +kernel
theorem dX4_add_81 : decode cX4_add 81 = .ok (.goto (-75), 3) := by decide +kernel
theorem dX4_add_84 : decode cX4_add 84 = .ok (.return_, 1) := by decide +kernel
theorem dX4_at_0 : decode cX4_at 0 = .ok (.iload_n 1, 1) := by decide +kernel
theorem dX4_at_1 : decode cX4_at 1 = .ok (.ifCond .lt 41, 3) := by decide +kernel
theorem dX4_at_4 : decode cX4_at 4 = .ok (.iload_n 1, 1) := by decide +kernel
theorem dX4_at_5 : decode cX4_at 5 = .ok (.aload_n 0, 1) := by decide +kernel
theorem dX4_at_6 : decode cX4_at 6 = .ok (.getfield 15, 3) := by decide +kernel
theorem dX4_at_9 : decode cX4_at 9 = .ok (.if_icmp .gt 33, 3) := by decide +kernel
theorem dX4_at_12 : decode cX4_at 12 = .ok (.iload_n 1, 1) := by decide +kernel
theorem dX4_at_13 : decode cX4_at 13 = .ok (.sipush 144, 3) := by decide +kernel
theorem dX4_at_16 : decode cX4_at 16 = .ok (.if_icmp .ge 26, 3) := by decide +kernel
theorem dX4_at_19 : decode cX4_at 19 = .ok (.iload_n 2, 1) := by decide +kernel
theorem dX4_at_20 : decode cX4_at 20 = .ok (.ifCond .lt 22, 3) := by decide +kernel
theorem dX4_at_23 : decode cX4_at 23 = .ok (.iload_n 2, 1) := by decide +kernel
theorem dX4_at_24 : decode cX4_at 24 = .ok (.aload_n 0, 1) := by decide +kernel
theorem dX4_at_25 : decode cX4_at 25 = .ok (.getfield 19, 3) := by decide +kernel
theorem dX4_at_28 : decode cX4_at 28 = .ok (.if_icmp .gt 14, 3) := by decide +kernel
theorem dX4_at_31 : decode cX4_at 31 = .ok (.iload_n 2, 1) := by decide +kernel
theorem dX4_at_32 : decode cX4_at 32 = .ok (.sipush 144, 3) := by decide +kernel
theorem dX4_at_35 : decode cX4_at 35 = .ok (.if_icmp .ge 7, 3) := by decide +kernel
theorem dX4_at_38 : decode cX4_at 38 = .ok (.iconst 1, 1) := by decide +kernel
theorem dX4_at_39 : decode cX4_at 39 = .ok (.goto 4, 3) := by decide +kernel
theorem dX4_at_42 : decode cX4_at 42 = .ok (.iconst 0, 1) := by decide +kernel
theorem dX4_at_43 : decode cX4_at 43 = .ok (.istore_n 3, 1) := by decide +kernel
theorem dX4_at_44 : decode cX4_at 44 = .ok (.iload_n 3, 1) := by decide +kernel
theorem dX4_at_45 : decode cX4_at 45 = .ok (.ifCond .eq 18, 3) := by decide +kernel
theorem dX4_at_48 : decode cX4_at 48 = .ok (.aload_n 0, 1) := by decide +kernel
theorem dX4_at_49 : decode cX4_at 49 = .ok (.getfield 11, 3) := by decide +kernel
theorem dX4_at_52 : decode cX4_at 52 = .ok (.iload_n 1, 1) := by decide +kernel
theorem dX4_at_53 : decode cX4_at 53 = .ok (.sipush 144, 3) := by decide +kernel
theorem dX4_at_56 : decode cX4_at 56 = .ok (.imul, 1) := by decide +kernel
theorem dX4_at_57 : decode cX4_at 57 = .ok (.iload_n 2, 1) := by decide +kernel
theorem dX4_at_58 : decode cX4_at 58 = .ok (.iadd, 1) := by decide +kernel
theorem dX4_at_59 : decode cX4_at 59 = .ok (.laload, 1) := by decide +kernel
theorem dX4_at_60 : decode cX4_at 60 = .ok (.goto 4, 3) := by decide +kernel
theorem dX4_at_63 : decode cX4_at 63 = .ok (.lconst 0, 1) := by decide +kernel
theorem dX4_at_64 : decode cX4_at 64 = .ok (.lreturn, 1) := by decide +kernel
theorem dX4_atWith_0 : decode cX4_atWith 0 = .ok (.lconst 0, 1) := by decide +kernel
theorem dX4_atWith_1 : decode cX4_atWith 1 = .ok (.lstore 5, 2) := by decide +kernel
theorem dX4_atWith_3 : decode cX4_atWith 3 = .ok (.iload_n 1, 1) := by decide +kernel
theorem dX4_atWith_4 : decode cX4_atWith 4 = .ok (.istore 7, 2) := by decide +kernel
theorem dX4_atWith_6 : decode cX4_atWith 6 = .ok (.iload_n 2, 1) := by decide +kernel
theorem dX4_atWith_7 : decode cX4_atWith 7 = .ok (.istore 8, 2) := by decide +kernel
theorem dX4_atWith_9 : decode cX4_atWith 9 = .ok (.iconst 0, 1) := by decide +kernel
theorem dX4_atWith_10 : decode cX4_atWith 10 = .ok (.istore 9, 2) := by decide +kernel
theorem dX4_atWith_12 : decode cX4_atWith 12 = .ok (.iload 9, 2) := by decide +kernel
theorem dX4_atWith_14 : decode cX4_atWith 14 = .ok (.bipush 60, 2) := by decide +kernel
theorem dX4_atWith_16 : decode cX4_atWith 16 = .ok (.if_icmp .gt 45, 3) := by decide +kernel
theorem dX4_atWith_19 : decode cX4_atWith 19 = .ok (.iload 7, 2) := by decide +kernel
theorem dX4_atWith_21 : decode cX4_atWith 21 = .ok (.ifCond .lt 40, 3) := by decide +kernel
theorem dX4_atWith_24 : decode cX4_atWith 24 = .ok (.iload 8, 2) := by decide +kernel
theorem dX4_atWith_26 : decode cX4_atWith 26 = .ok (.ifCond .lt 35, 3) := by decide +kernel
theorem dX4_atWith_29 : decode cX4_atWith 29 = .ok (.lload 5, 2) := by decide +kernel
theorem dX4_atWith_31 : decode cX4_atWith 31 = .ok (.aload_n 0, 1) := by decide +kernel
theorem dX4_atWith_32 : decode cX4_atWith 32 = .ok (.iload 7, 2) := by decide +kernel
theorem dX4_atWith_34 : decode cX4_atWith 34 = .ok (.iload 8, 2) := by decide +kernel
theorem dX4_atWith_36 : decode cX4_atWith 36 = .ok (.invokevirtual 50, 3) := by decide +kernel
theorem dX4_atWith_39 : decode cX4_atWith 39 = .ok (.ladd, 1) := by decide +kernel
theorem dX4_atWith_40 : decode cX4_atWith 40 = .ok (.lstore 5, 2) := by decide +kernel
theorem dX4_atWith_42 : decode cX4_atWith 42 = .ok (.iload 7, 2) := by decide +kernel
theorem dX4_atWith_44 : decode cX4_atWith 44 = .ok (.iload_n 3, 1) := by decide +kernel
theorem dX4_atWith_45 : decode cX4_atWith 45 = .ok (.isub, 1) := by decide +kernel
theorem dX4_atWith_46 : decode cX4_atWith 46 = .ok (.istore 7, 2) := by decide +kernel
theorem dX4_atWith_48 : decode cX4_atWith 48 = .ok (.iload 8, 2) := by decide +kernel
theorem dX4_atWith_50 : decode cX4_atWith 50 = .ok (.iload 4, 2) := by decide +kernel
theorem dX4_atWith_52 : decode cX4_atWith 52 = .ok (.isub, 1) := by decide +kernel
theorem dX4_atWith_53 : decode cX4_atWith 53 = .ok (.istore 8, 2) := by decide +kernel
theorem dX4_atWith_55 : decode cX4_atWith 55 = .ok (.iinc 9 1, 3) := by decide +kernel
theorem dX4_atWith_58 : decode cX4_atWith 58 = .ok (.goto (-46), 3) := by decide +kernel
theorem dX4_atWith_61 : decode cX4_atWith 61 = .ok (.lload 5, 2) := by decide +kernel
theorem dX4_atWith_63 : decode cX4_atWith 63 = .ok (.lreturn, 1) := by decide +kernel
theorem dX5_init_0 : decode cX5_init 0 = .ok (.aload_n 0, 1) := by decide +kernel
theorem dX5_init_1 : decode cX5_init 1 = .ok (.invokespecial 3, 3) := by decide +kernel
theorem dX5_init_4 : decode cX5_init 4 = .ok (.aload_n 0, 1) := by decide +kernel
theorem dX5_init_5 : decode cX5_init 5 = .ok (.bipush 6, 2) := by decide +kernel
theorem dX5_init_7 : decode cX5_init 7 = .ok (.newarray .int, 2) := by decide +kernel
theorem dX5_init_9 : decode cX5_init 9 = .ok (.putfield 9, 3) := by decide +kernel
theorem dX5_init_12 : decode cX5_init 12 = .ok (.aload_n 0, 1) := by decide +kernel
theorem dX5_init_13 : decode cX5_init 13 = .ok (.bipush 6, 2) := by decide +kernel
theorem dX5_init_15 : decode cX5_init 15 = .ok (.newarray .int, 2) := by decide +kernel
theorem dX5_init_17 : decode cX5_init 17 = .ok (.putfield 15, 3) := by decide +kernel
theorem dX5_init_20 : decode cX5_init 20 = .ok (.aload_n 0, 1) := by decide +kernel
theorem dX5_init_21 : decode cX5_init 21 = .ok (.bipush 6, 2) := by decide +kernel
theorem dX5_init_23 : decode cX5_init 23 = .ok (.newarray .int, 2) := by decide +kernel
theorem dX5_init_25 : decode cX5_init 25 = .ok (.putfield 18, 3) := by decide +kernel
theorem dX5_init_28 : decode cX5_init 28 = .ok (.aload_n 0, 1) := by decide +kernel
theorem dX5_init_29 : decode cX5_init 29 = .ok (.bipush 6, 2) := by decide +kernel
theorem dX5_init_31 : decode cX5_init 31 = .ok (.newarray .long, 2) := by decide +kernel
theorem dX5_init_33 : decode cX5_init 33 = .ok (.putfield 21, 3) := by decide +kernel
theorem dX5_init_36 : decode cX5_init 36 = .ok (.aload_n 0, 1) := by decide +kernel
theorem dX5_init_37 : decode cX5_init 37 = .ok (.iconst 0, 1) := by decide +kernel
theorem dX5_init_38 : decode cX5_init 38 = .ok (.putfield 25, 3) := by decide +kernel
theorem dX5_init_41 : decode cX5_init 41 = .ok (.return_, 1) := by decide +kernel
theorem dX5_has_0 : decode cX5_has 0 = .ok (.iload_n 1, 1) := by decide +kernel
theorem dX5_has_1 : decode cX5_has 1 = .ok (.ifCond .lt 21, 3) := by decide +kernel
theorem dX5_has_4 : decode cX5_has 4 = .ok (.iload_n 1, 1) := by decide +kernel
theorem dX5_has_5 : decode cX5_has 5 = .ok (.aload_n 0, 1) := by decide +kernel
theorem dX5_has_6 : decode cX5_has 6 = .ok (.getfield 25, 3) := by decide +kernel
theorem dX5_has_9 : decode cX5_has 9 = .ok (.if_icmp .ge 13, 3) := by decide +kernel
theorem dX5_has_12 : decode cX5_has 12 = .ok (.iload_n 1, 1) := by decide +kernel
theorem dX5_has_13 : decode cX5_has 13 = .ok (.bipush 6, 2) := by decide +kernel
theorem dX5_has_15 : decode cX5_has 15 = .ok (.if_icmp .ge 7, 3) := by decide +kernel
theorem dX5_has_18 : decode cX5_has 18 = .ok (.iconst 1, 1) := by decide +kernel
theorem dX5_has_19 : decode cX5_has 19 = .ok (.goto 4, 3) := by decide +kernel
theorem dX5_has_22 : decode cX5_has 22 = .ok (.iconst 0, 1) := by decide +kernel
theorem dX5_has_23 : decode cX5_has 23 = .ok (.ireturn, 1) := by decide +kernel
theorem dX5_add_0 : decode cX5_add 0 = .ok (.aload_n 0, 1) := by decide +kernel
theorem dX5_add_1 : decode cX5_add 1 = .ok (.getfield 25, 3) := by decide +kernel
theorem dX5_add_4 : decode cX5_add 4 = .ok (.ifCond .lt 12, 3) := by decide +kernel
theorem dX5_add_7 : decode cX5_add 7 = .ok (.aload_n 0, 1) := by decide +kernel
theorem dX5_add_8 : decode cX5_add 8 = .ok (.getfield 25, 3) := by decide +kernel
theorem dX5_add_11 : decode cX5_add 11 = .ok (.bipush 6, 2) := by decide +kernel
theorem dX5_add_13 : decode cX5_add 13 = .ok (.if_icmp .lt 4, 3) := by decide +kernel
theorem dX5_add_16 : decode cX5_add 16 = .ok (.return_, 1) := by decide +kernel
theorem dX5_add_17 : decode cX5_add 17 = .ok (.aload_n 0, 1) := by decide +kernel
theorem dX5_add_18 : decode cX5_add 18 = .ok (.getfield 9, 3) := by decide +kernel
theorem dX5_add_21 : decode cX5_add 21 = .ok (.aload_n 0, 1) := by decide +kernel
theorem dX5_add_22 : decode cX5_add 22 = .ok (.getfield 25, 3) := by decide +kernel
theorem dX5_add_25 : decode cX5_add 25 = .ok (.iload_n 1, 1) := by decide +kernel
theorem dX5_add_26 : decode cX5_add 26 = .ok (.iastore, 1) := by decide +kernel
theorem dX5_add_27 : decode cX5_add 27 = .ok (.aload_n 0, 1) := by decide +kernel
theorem dX5_add_28 : decode cX5_add 28 = .ok (.getfield 15, 3) := by decide +kernel
theorem dX5_add_31 : decode cX5_add 31 = .ok (.aload_n 0, 1) := by decide +kernel
theorem dX5_add_32 : decode cX5_add 32 = .ok (.getfield 25, 3) := by decide +kernel
theorem dX5_add_35 : decode cX5_add 35 = .ok (.iload_n 2, 1) := by decide +kernel
theorem dX5_add_36 : decode cX5_add 36 = .ok (.iastore, 1) := by decide +kernel
theorem dX5_add_37 : decode cX5_add 37 = .ok (.aload_n 0, 1) := by decide +kernel
theorem dX5_add_38 : decode cX5_add 38 = .ok (.getfield 18, 3) := by decide +kernel
theorem dX5_add_41 : decode cX5_add 41 = .ok (.aload_n 0, 1) := by decide +kernel
theorem dX5_add_42 : decode cX5_add 42 = .ok (.getfield 25, 3) := by decide +kernel
theorem dX5_add_45 : decode cX5_add 45 = .ok (.iconst 1, 1) := by decide +kernel
theorem dX5_add_46 : decode cX5_add 46 = .ok (.iastore, 1) := by decide +kernel
theorem dX5_add_47 : decode cX5_add 47 = .ok (.aload_n 0, 1) := by decide +kernel
theorem dX5_add_48 : decode cX5_add 48 = .ok (.getfield 21, 3) := by decide +kernel
theorem dX5_add_51 : decode cX5_add 51 = .ok (.aload_n 0, 1) := by decide +kernel
theorem dX5_add_52 : decode cX5_add 52 = .ok (.getfield 25, 3) := by decide +kernel
theorem dX5_add_55 : decode cX5_add 55 = .ok (.ldc2_w 29, 3) := by decide +kernel
theorem dX5_add_58 : decode cX5_add 58 = .ok (.lastore, 1) := by decide +kernel
theorem dX5_add_59 : decode cX5_add 59 = .ok (.aload_n 0, 1) := by decide +kernel
theorem dX5_add_60 : decode cX5_add 60 = .ok (.dup, 1) := by decide +kernel
theorem dX5_add_61 : decode cX5_add 61 = .ok (.getfield 25, 3) := by decide +kernel
theorem dX5_add_64 : decode cX5_add 64 = .ok (.iconst 1, 1) := by decide +kernel
theorem dX5_add_65 : decode cX5_add 65 = .ok (.iadd, 1) := by decide +kernel
theorem dX5_add_66 : decode cX5_add 66 = .ok (.putfield 25, 3) := by decide +kernel
theorem dX5_add_69 : decode cX5_add 69 = .ok (.return_, 1) := by decide +kernel
theorem dX5_become_0 : decode cX5_become 0 = .ok (.iconst 0, 1) := by decide +kernel
theorem dX5_become_1 : decode cX5_become 1 = .ok (.istore_n 2, 1) := by decide +kernel
theorem dX5_become_2 : decode cX5_become 2 = .ok (.iload_n 2, 1) := by decide +kernel
theorem dX5_become_3 : decode cX5_become 3 = .ok (.bipush 6, 2) := by decide +kernel
theorem dX5_become_5 : decode cX5_become 5 = .ok (.if_icmp .ge 57, 3) := by decide +kernel
theorem dX5_become_8 : decode cX5_become 8 = .ok (.aload_n 0, 1) := by decide +kernel
theorem dX5_become_9 : decode cX5_become 9 = .ok (.getfield 9, 3) := by decide +kernel
theorem dX5_become_12 : decode cX5_become 12 = .ok (.iload_n 2, 1) := by decide +kernel
theorem dX5_become_13 : decode cX5_become 13 = .ok (.aload_n 1, 1) := by decide +kernel
theorem dX5_become_14 : decode cX5_become 14 = .ok (.getfield 9, 3) := by decide +kernel
theorem dX5_become_17 : decode cX5_become 17 = .ok (.iload_n 2, 1) := by decide +kernel
theorem dX5_become_18 : decode cX5_become 18 = .ok (.iaload, 1) := by decide +kernel
theorem dX5_become_19 : decode cX5_become 19 = .ok (.iastore, 1) := by decide +kernel
theorem dX5_become_20 : decode cX5_become 20 = .ok (.aload_n 0, 1) := by decide +kernel
theorem dX5_become_21 : decode cX5_become 21 = .ok (.getfield 15, 3) := by decide +kernel
theorem dX5_become_24 : decode cX5_become 24 = .ok (.iload_n 2, 1) := by decide +kernel
theorem dX5_become_25 : decode cX5_become 25 = .ok (.aload_n 1, 1) := by decide +kernel
theorem dX5_become_26 : decode cX5_become 26 = .ok (.getfield 15, 3) := by decide +kernel
theorem dX5_become_29 : decode cX5_become 29 = .ok (.iload_n 2, 1) := by decide +kernel
theorem dX5_become_30 : decode cX5_become 30 = .ok (.iaload, 1) := by decide +kernel
theorem dX5_become_31 : decode cX5_become 31 = .ok (.iastore, 1) := by decide +kernel
theorem dX5_become_32 : decode cX5_become 32 = .ok (.aload_n 0, 1) := by decide +kernel
theorem dX5_become_33 : decode cX5_become 33 = .ok (.getfield 18, 3) := by decide +kernel
theorem dX5_become_36 : decode cX5_become 36 = .ok (.iload_n 2, 1) := by decide +kernel
theorem dX5_become_37 : decode cX5_become 37 = .ok (.aload_n 1, 1) := by decide +kernel
theorem dX5_become_38 : decode cX5_become 38 = .ok (.getfield 18, 3) := by decide +kernel
theorem dX5_become_41 : decode cX5_become 41 = .ok (.iload_n 2, 1) := by decide +kernel
theorem dX5_become_42 : decode cX5_become 42 = .ok (.iaload, 1) := by decide +kernel
theorem dX5_become_43 : decode cX5_become 43 = .ok (.iastore, 1) := by decide +kernel
theorem dX5_become_44 : decode cX5_become 44 = .ok (.aload_n 0, 1) := by decide +kernel
theorem dX5_become_45 : decode cX5_become 45 = .ok (.getfield 21, 3) := by decide +kernel
theorem dX5_become_48 : decode cX5_become 48 = .ok (.iload_n 2, 1) := by decide +kernel
theorem dX5_become_49 : decode cX5_become 49 = .ok (.aload_n 1, 1) := by decide +kernel
theorem dX5_become_50 : decode cX5_become 50 = .ok (.getfield 21, 3) := by decide +kernel
theorem dX5_become_53 : decode cX5_become 53 = .ok (.iload_n 2, 1) := by decide +kernel
theorem dX5_become_54 : decode cX5_become 54 = .ok (.laload, 1) := by decide +kernel
theorem dX5_become_55 : decode cX5_become 55 = .ok (.lastore, 1) := by decide +kernel
theorem dX5_become_56 : decode cX5_become 56 = .ok (.iinc 2 1, 3) := by decide +kernel
theorem dX5_become_59 : decode cX5_become 59 = .ok (.goto (-57), 3) := by decide +kernel
theorem dX5_become_62 : decode cX5_become 62 = .ok (.aload_n 0, 1) := by decide +kernel
theorem dX5_become_63 : decode cX5_become 63 = .ok (.aload_n 1, 1) := by decide +kernel
theorem dX5_become_64 : decode cX5_become 64 = .ok (.getfield 25, 3) := by decide +kernel
theorem dX5_become_67 : decode cX5_become 67 = .ok (.putfield 25, 3) := by decide +kernel
theorem dX5_become_70 : decode cX5_become 70 = .ok (.return_, 1) := by decide +kernel
theorem dX5_allows_0 : decode cX5_allows 0 = .ok (.aload_n 0, 1) := by decide +kernel
theorem dX5_allows_1 : decode cX5_allows 1 = .ok (.iload_n 1, 1) := by decide +kernel
theorem dX5_allows_2 : decode cX5_allows 2 = .ok (.invokevirtual 31, 3) := by decide +kernel
theorem dX5_allows_5 : decode cX5_allows 5 = .ok (.ifCond .eq 22, 3) := by decide +kernel
theorem dX5_allows_8 : decode cX5_allows 8 = .ok (.aload_n 0, 1) := by decide +kernel
theorem dX5_allows_9 : decode cX5_allows 9 = .ok (.getfield 21, 3) := by decide +kernel
theorem dX5_allows_12 : decode cX5_allows 12 = .ok (.iload_n 1, 1) := by decide +kernel
theorem dX5_allows_13 : decode cX5_allows 13 = .ok (.laload, 1) := by decide +kernel
theorem dX5_allows_14 : decode cX5_allows 14 = .ok (.iload_n 2, 1) := by decide +kernel
theorem dX5_allows_15 : decode cX5_allows 15 = .ok (.lushr, 1) := by decide +kernel
theorem dX5_allows_16 : decode cX5_allows 16 = .ok (.lconst 1, 1) := by decide +kernel
theorem dX5_allows_17 : decode cX5_allows 17 = .ok (.land, 1) := by decide +kernel
theorem dX5_allows_18 : decode cX5_allows 18 = .ok (.lconst 1, 1) := by decide +kernel
theorem dX5_allows_19 : decode cX5_allows 19 = .ok (.lcmp, 1) := by decide +kernel
theorem dX5_allows_20 : decode cX5_allows 20 = .ok (.ifCond .ne 7, 3) := by decide +kernel
theorem dX5_allows_23 : decode cX5_allows 23 = .ok (.iconst 1, 1) := by decide +kernel
theorem dX5_allows_24 : decode cX5_allows 24 = .ok (.goto 4, 3) := by decide +kernel
theorem dX5_allows_27 : decode cX5_allows 27 = .ok (.iconst 0, 1) := by decide +kernel
theorem dX5_allows_28 : decode cX5_allows 28 = .ok (.ireturn, 1) := by decide +kernel
theorem dX5_acrossTogether_0 : decode cX5_acrossTogether 0 = .ok (.iconst 0, 1) := by decide +kernel
theorem dX5_acrossTogether_1 : decode cX5_acrossTogether 1 = .ok (.istore_n 1, 1) := by decide +kernel
theorem dX5_acrossTogether_2 : decode cX5_acrossTogether 2 = .ok (.iconst 0, 1) := by decide +kernel
theorem dX5_acrossTogether_3 : decode cX5_acrossTogether 3 = .ok (.istore_n 2, 1) := by decide +kernel
theorem dX5_acrossTogether_4 : decode cX5_acrossTogether 4 = .ok (.iload_n 2, 1) := by decide +kernel
theorem dX5_acrossTogether_5 : decode cX5_acrossTogether 5 = .ok (.aload_n 0, 1) := by decide +kernel
theorem dX5_acrossTogether_6 : decode cX5_acrossTogether 6 = .ok (.getfield 25, 3) := by decide +kernel
theorem dX5_acrossTogether_9 : decode cX5_acrossTogether 9 = .ok (.if_icmp .ge 24, 3) := by decide +kernel
theorem dX5_acrossTogether_12 : decode cX5_acrossTogether 12 = .ok (.iload_n 2, 1) := by decide +kernel
theorem dX5_acrossTogether_13 : decode cX5_acrossTogether 13 = .ok (.bipush 6, 2) := by decide +kernel
theorem dX5_acrossTogether_15 : decode cX5_acrossTogether 15 = .ok (.if_icmp .ge 18, 3) := by decide +kernel
theorem dX5_acrossTogether_18 : decode cX5_acrossTogether 18 = .ok (.iload_n 1, 1) := by decide +kernel
theorem dX5_acrossTogether_19 : decode cX5_acrossTogether 19 = .ok (.aload_n 0, 1) := by decide +kernel
theorem dX5_acrossTogether_20 : decode cX5_acrossTogether 20 = .ok (.getfield 9, 3) := by decide +kernel
theorem dX5_acrossTogether_23 : decode cX5_acrossTogether 23 = .ok (.iload_n 2, 1) := by decide +kernel
theorem dX5_acrossTogether_24 : decode cX5_acrossTogether 24 = .ok (.iaload, 1) := by decide +kernel
theorem dX5_acrossTogether_25 : decode cX5_acrossTogether 25 = .ok (.iadd, 1) := by decide +kernel
theorem dX5_acrossTogether_26 : decode cX5_acrossTogether 26 = .ok (.istore_n 1, 1) := by decide +kernel
theorem dX5_acrossTogether_27 : decode cX5_acrossTogether 27 = .ok (.iinc 2 1, 3) := by decide +kernel
theorem dX5_acrossTogether_30 : decode cX5_acrossTogether 30 = .ok (.goto (-26), 3) := by decide +kernel
theorem dX5_acrossTogether_33 : decode cX5_acrossTogether 33 = .ok (.iload_n 1, 1) := by decide +kernel
theorem dX5_acrossTogether_34 : decode cX5_acrossTogether 34 = .ok (.ireturn, 1) := by decide +kernel
theorem dX5_upTogether_0 : decode cX5_upTogether 0 = .ok (.iconst 0, 1) := by decide +kernel
theorem dX5_upTogether_1 : decode cX5_upTogether 1 = .ok (.istore_n 1, 1) := by decide +kernel
theorem dX5_upTogether_2 : decode cX5_upTogether 2 = .ok (.iconst 0, 1) := by decide +kernel
theorem dX5_upTogether_3 : decode cX5_upTogether 3 = .ok (.istore_n 2, 1) := by decide +kernel
theorem dX5_upTogether_4 : decode cX5_upTogether 4 = .ok (.iload_n 2, 1) := by decide +kernel
theorem dX5_upTogether_5 : decode cX5_upTogether 5 = .ok (.aload_n 0, 1) := by decide +kernel
theorem dX5_upTogether_6 : decode cX5_upTogether 6 = .ok (.getfield 25, 3) := by decide +kernel
theorem dX5_upTogether_9 : decode cX5_upTogether 9 = .ok (.if_icmp .ge 24, 3) := by decide +kernel
theorem dX5_upTogether_12 : decode cX5_upTogether 12 = .ok (.iload_n 2, 1) := by decide +kernel
theorem dX5_upTogether_13 : decode cX5_upTogether 13 = .ok (.bipush 6, 2) := by decide +kernel
theorem dX5_upTogether_15 : decode cX5_upTogether 15 = .ok (.if_icmp .ge 18, 3) := by decide +kernel
theorem dX5_upTogether_18 : decode cX5_upTogether 18 = .ok (.iload_n 1, 1) := by decide +kernel
theorem dX5_upTogether_19 : decode cX5_upTogether 19 = .ok (.aload_n 0, 1) := by decide +kernel
theorem dX5_upTogether_20 : decode cX5_upTogether 20 = .ok (.getfield 15, 3) := by decide +kernel
theorem dX5_upTogether_23 : decode cX5_upTogether 23 = .ok (.iload_n 2, 1) := by decide +kernel
theorem dX5_upTogether_24 : decode cX5_upTogether 24 = .ok (.iaload, 1) := by decide +kernel
theorem dX5_upTogether_25 : decode cX5_upTogether 25 = .ok (.iadd, 1) := by decide +kernel
theorem dX5_upTogether_26 : decode cX5_upTogether 26 = .ok (.istore_n 1, 1) := by decide +kernel
theorem dX5_upTogether_27 : decode cX5_upTogether 27 = .ok (.iinc 2 1, 3) := by decide +kernel
theorem dX5_upTogether_30 : decode cX5_upTogether 30 = .ok (.goto (-26), 3) := by decide +kernel
theorem dX5_upTogether_33 : decode cX5_upTogether 33 = .ok (.iload_n 1, 1) := by decide +kernel
theorem dX5_upTogether_34 : decode cX5_upTogether 34 = .ok (.ireturn, 1) := by decide +kernel
theorem dX6_init_0 : decode cX6_init 0 = .ok (.aload_n 0, 1) := by decide +kernel
theorem dX6_init_1 : decode cX6_init 1 = .ok (.invokespecial 3, 3) := by decide +kernel
theorem dX6_init_4 : decode cX6_init 4 = .ok (.aload_n 0, 1) := by decide +kernel
theorem dX6_init_5 : decode cX6_init 5 = .ok (.iconst 5, 1) := by decide +kernel
theorem dX6_init_6 : decode cX6_init 6 = .ok (.newarray .long, 2) := by decide +kernel
theorem dX6_init_8 : decode cX6_init 8 = .ok (.putfield 9, 3) := by decide +kernel
theorem dX6_init_11 : decode cX6_init 11 = .ok (.aload_n 0, 1) := by decide +kernel
theorem dX6_init_12 : decode cX6_init 12 = .ok (.iconst 5, 1) := by decide +kernel
theorem dX6_init_13 : decode cX6_init 13 = .ok (.newarray .long, 2) := by decide +kernel
theorem dX6_init_15 : decode cX6_init 15 = .ok (.putfield 15, 3) := by decide +kernel
theorem dX6_init_18 : decode cX6_init 18 = .ok (.aload_n 0, 1) := by decide +kernel
theorem dX6_init_19 : decode cX6_init 19 = .ok (.iconst 5, 1) := by decide +kernel
theorem dX6_init_20 : decode cX6_init 20 = .ok (.newarray .boolean, 2) := by decide +kernel
theorem dX6_init_22 : decode cX6_init 22 = .ok (.putfield 18, 3) := by decide +kernel
theorem dX6_init_25 : decode cX6_init 25 = .ok (.aload_n 0, 1) := by decide +kernel
theorem dX6_init_26 : decode cX6_init 26 = .ok (.iconst 0, 1) := by decide +kernel
theorem dX6_init_27 : decode cX6_init 27 = .ok (.putfield 22, 3) := by decide +kernel
theorem dX6_init_30 : decode cX6_init 30 = .ok (.aload_n 0, 1) := by decide +kernel
theorem dX6_init_31 : decode cX6_init 31 = .ok (.iconst 0, 1) := by decide +kernel
theorem dX6_init_32 : decode cX6_init 32 = .ok (.putfield 26, 3) := by decide +kernel
theorem dX6_init_35 : decode cX6_init 35 = .ok (.aload_n 0, 1) := by decide +kernel
theorem dX6_init_36 : decode cX6_init 36 = .ok (.iconst 0, 1) := by decide +kernel
theorem dX6_init_37 : decode cX6_init 37 = .ok (.putfield 29, 3) := by decide +kernel
theorem dX6_init_40 : decode cX6_init 40 = .ok (.aload_n 0, 1) := by decide +kernel
theorem dX6_init_41 : decode cX6_init 41 = .ok (.ldc2_w 32, 3) := by decide +kernel
theorem dX6_init_44 : decode cX6_init 44 = .ok (.putfield 34, 3) := by decide +kernel
theorem dX6_init_47 : decode cX6_init 47 = .ok (.return_, 1) := by decide +kernel
theorem dX6_faultIn_0 : decode cX6_faultIn 0 = .ok (.aload_n 1, 1) := by decide +kernel
theorem dX6_faultIn_1 : decode cX6_faultIn 1 = .ok (.invokevirtual 38, 3) := by decide +kernel
theorem dX6_faultIn_4 : decode cX6_faultIn 4 = .ok (.aload_n 0, 1) := by decide +kernel
theorem dX6_faultIn_5 : decode cX6_faultIn 5 = .ok (.iconst 0, 1) := by decide +kernel
theorem dX6_faultIn_6 : decode cX6_faultIn 6 = .ok (.putfield 22, 3) := by decide +kernel
theorem dX6_faultIn_9 : decode cX6_faultIn 9 = .ok (.aload_n 0, 1) := by decide +kernel
theorem dX6_faultIn_10 : decode cX6_faultIn 10 = .ok (.lconst 0, 1) := by decide +kernel
theorem dX6_faultIn_11 : decode cX6_faultIn 11 = .ok (.invokevirtual 43, 3) := by decide +kernel
theorem dX6_faultIn_14 : decode cX6_faultIn 14 = .ok (.iconst 0, 1) := by decide +kernel
theorem dX6_faultIn_15 : decode cX6_faultIn 15 = .ok (.istore_n 2, 1) := by decide +kernel
theorem dX6_faultIn_16 : decode cX6_faultIn 16 = .ok (.iload_n 2, 1) := by decide +kernel
theorem dX6_faultIn_17 : decode cX6_faultIn 17 = .ok (.bipush 100, 2) := by decide +kernel
theorem dX6_faultIn_19 : decode cX6_faultIn 19 = .ok (.if_icmp .gt 48, 3) := by decide +kernel
theorem dX6_faultIn_22 : decode cX6_faultIn 22 = .ok (.aload_n 1, 1) := by decide +kernel
theorem dX6_faultIn_23 : decode cX6_faultIn 23 = .ok (.invokevirtual 47, 3) := by decide +kernel
theorem dX6_faultIn_26 : decode cX6_faultIn 26 = .ok (.istore_n 3, 1) := by decide +kernel
theorem dX6_faultIn_27 : decode cX6_faultIn 27 = .ok (.iload_n 3, 1) := by decide +kernel
theorem dX6_faultIn_28 : decode cX6_faultIn 28 = .ok (.ifCond .ne 19, 3) := by decide +kernel
theorem dX6_faultIn_31 : decode cX6_faultIn 31 = .ok (.aload_n 0, 1) := by decide +kernel
theorem dX6_faultIn_32 : decode cX6_faultIn 32 = .ok (.invokevirtual 51, 3) := by decide +kernel
theorem dX6_faultIn_35 : decode cX6_faultIn 35 = .ok (.ifCond .eq 7, 3) := by decide +kernel
theorem dX6_faultIn_38 : decode cX6_faultIn 38 = .ok (.iconst (-1), 1) := by decide +kernel
theorem dX6_faultIn_39 : decode cX6_faultIn 39 = .ok (.goto 7, 3) := by decide +kernel
theorem dX6_faultIn_42 : decode cX6_faultIn 42 = .ok (.aload_n 1, 1) := by decide +kernel
theorem dX6_faultIn_43 : decode cX6_faultIn 43 = .ok (.getfield 55, 3) := by decide +kernel
theorem dX6_faultIn_46 : decode cX6_faultIn 46 = .ok (.ireturn, 1) := by decide +kernel
theorem dX6_faultIn_47 : decode cX6_faultIn 47 = .ok (.aload_n 0, 1) := by decide +kernel
theorem dX6_faultIn_48 : decode cX6_faultIn 48 = .ok (.aload_n 1, 1) := by decide +kernel
theorem dX6_faultIn_49 : decode cX6_faultIn 49 = .ok (.iload_n 3, 1) := by decide +kernel
theorem dX6_faultIn_50 : decode cX6_faultIn 50 = .ok (.invokevirtual 58, 3) := by decide +kernel
theorem dX6_faultIn_53 : decode cX6_faultIn 53 = .ok (.ifCond .ne 8, 3) := by decide +kernel
theorem dX6_faultIn_56 : decode cX6_faultIn 56 = .ok (.aload_n 1, 1) := by decide +kernel
theorem dX6_faultIn_57 : decode cX6_faultIn 57 = .ok (.getfield 55, 3) := by decide +kernel
theorem dX6_faultIn_60 : decode cX6_faultIn 60 = .ok (.ireturn, 1) := by decide +kernel
theorem dX6_faultIn_61 : decode cX6_faultIn 61 = .ok (.iinc 2 1, 3) := by decide +kernel
theorem dX6_faultIn_64 : decode cX6_faultIn 64 = .ok (.goto (-48), 3) := by decide +kernel
theorem dX6_faultIn_67 : decode cX6_faultIn 67 = .ok (.aload_n 1, 1) := by decide +kernel
theorem dX6_faultIn_68 : decode cX6_faultIn 68 = .ok (.getfield 55, 3) := by decide +kernel
theorem dX6_faultIn_71 : decode cX6_faultIn 71 = .ok (.ireturn, 1) := by decide +kernel
theorem dX6_ends_0 : decode cX6_ends 0 = .ok (.aload_n 0, 1) := by decide +kernel
theorem dX6_ends_1 : decode cX6_ends 1 = .ok (.getfield 26, 3) := by decide +kernel
theorem dX6_ends_4 : decode cX6_ends 4 = .ok (.iconst 2, 1) := by decide +kernel
theorem dX6_ends_5 : decode cX6_ends 5 = .ok (.if_icmp .ne 10, 3) := by decide +kernel
theorem dX6_ends_8 : decode cX6_ends 8 = .ok (.aload_n 0, 1) := by decide +kernel
theorem dX6_ends_9 : decode cX6_ends 9 = .ok (.getfield 22, 3) := by decide +kernel
theorem dX6_ends_12 : decode cX6_ends 12 = .ok (.ifCond .eq 5, 3) := by decide +kernel
theorem dX6_ends_15 : decode cX6_ends 15 = .ok (.iconst 0, 1) := by decide +kernel
theorem dX6_ends_16 : decode cX6_ends 16 = .ok (.ireturn, 1) := by decide +kernel
theorem dX6_ends_17 : decode cX6_ends 17 = .ok (.aload_n 0, 1) := by decide +kernel
theorem dX6_ends_18 : decode cX6_ends 18 = .ok (.aload_n 0, 1) := by decide +kernel
theorem dX6_ends_19 : decode cX6_ends 19 = .ok (.invokevirtual 62, 3) := by decide +kernel
theorem dX6_ends_22 : decode cX6_ends 22 = .ok (.putfield 34, 3) := by decide +kernel
theorem dX6_ends_25 : decode cX6_ends 25 = .ok (.iconst 1, 1) := by decide +kernel
theorem dX6_ends_26 : decode cX6_ends 26 = .ok (.ireturn, 1) := by decide +kernel
theorem dX6_takes_0 : decode cX6_takes 0 = .ok (.aload_n 0, 1) := by decide +kernel
theorem dX6_takes_1 : decode cX6_takes 1 = .ok (.getfield 26, 3) := by decide +kernel
theorem dX6_takes_4 : decode cX6_takes 4 = .ok (.iconst 1, 1) := by decide +kernel
theorem dX6_takes_5 : decode cX6_takes 5 = .ok (.if_icmp .ne 25, 3) := by decide +kernel
theorem dX6_takes_8 : decode cX6_takes 8 = .ok (.iload_n 2, 1) := by decide +kernel
theorem dX6_takes_9 : decode cX6_takes 9 = .ok (.iconst 2, 1) := by decide +kernel
theorem dX6_takes_10 : decode cX6_takes 10 = .ok (.if_icmp .ne 18, 3) := by decide +kernel
theorem dX6_takes_13 : decode cX6_takes 13 = .ok (.aload_n 0, 1) := by decide +kernel
theorem dX6_takes_14 : decode cX6_takes 14 = .ok (.aload_n 1, 1) := by decide +kernel
theorem dX6_takes_15 : decode cX6_takes 15 = .ok (.invokevirtual 66, 3) := by decide +kernel
theorem dX6_takes_18 : decode cX6_takes 18 = .ok (.invokevirtual 69, 3) := by decide +kernel
theorem dX6_takes_21 : decode cX6_takes 21 = .ok (.ifCond .eq 7, 3) := by decide +kernel
theorem dX6_takes_24 : decode cX6_takes 24 = .ok (.iconst 1, 1) := by decide +kernel
theorem dX6_takes_25 : decode cX6_takes 25 = .ok (.goto 4, 3) := by decide +kernel
theorem dX6_takes_28 : decode cX6_takes 28 = .ok (.iconst 0, 1) := by decide +kernel
theorem dX6_takes_29 : decode cX6_takes 29 = .ok (.ireturn, 1) := by decide +kernel
theorem dX6_takes_30 : decode cX6_takes 30 = .ok (.iload_n 2, 1) := by decide +kernel
theorem dX6_takes_31 : decode cX6_takes 31 = .ok (.iconst 2, 1) := by decide +kernel
theorem dX6_takes_32 : decode cX6_takes 32 = .ok (.if_icmp .ne 5, 3) := by decide +kernel
theorem dX6_takes_35 : decode cX6_takes 35 = .ok (.iconst 0, 1) := by decide +kernel
theorem dX6_takes_36 : decode cX6_takes 36 = .ok (.ireturn, 1) := by decide +kernel
theorem dX6_takes_37 : decode cX6_takes 37 = .ok (.aload_n 0, 1) := by decide +kernel
theorem dX6_takes_38 : decode cX6_takes 38 = .ok (.getfield 26, 3) := by decide +kernel
theorem dX6_takes_41 : decode cX6_takes 41 = .ok (.ifCond .ne 11, 3) := by decide +kernel
theorem dX6_takes_44 : decode cX6_takes 44 = .ok (.aload_n 0, 1) := by decide +kernel
theorem dX6_takes_45 : decode cX6_takes 45 = .ok (.aload_n 1, 1) := by decide +kernel
theorem dX6_takes_46 : decode cX6_takes 46 = .ok (.invokevirtual 73, 3) := by decide +kernel
theorem dX6_takes_49 : decode cX6_takes 49 = .ok (.goto 8, 3) := by decide +kernel
theorem dX6_takes_52 : decode cX6_takes 52 = .ok (.aload_n 0, 1) := by decide +kernel
theorem dX6_takes_53 : decode cX6_takes 53 = .ok (.aload_n 1, 1) := by decide +kernel
theorem dX6_takes_54 : decode cX6_takes 54 = .ok (.invokevirtual 77, 3) := by decide +kernel
theorem dX6_takes_57 : decode cX6_takes 57 = .ok (.ireturn, 1) := by decide +kernel
theorem dX6_takesBeginning_0 : decode cX6_takesBeginning 0 = .ok (.aload_n 1, 1) := by decide +kernel
theorem dX6_takesBeginning_1 : decode cX6_takesBeginning 1 = .ok (.ldc 80, 2) := by decide +kernel
theorem dX6_takesBeginning_3 : decode cX6_takesBeginning 3 = .ok (.invokevirtual 82, 3) := by decide +kernel
theorem dX6_takesBeginning_6 : decode cX6_takesBeginning 6 = .ok (.ifCond .eq 9, 3) := by decide +kernel
theorem dX6_takesBeginning_9 : decode cX6_takesBeginning 9 = .ok (.aload_n 0, 1) := by decide +kernel
theorem dX6_takesBeginning_10 : decode cX6_takesBeginning 10 = .ok (.invokevirtual 86, 3) := by decide +kernel
theorem dX6_takesBeginning_13 : decode cX6_takesBeginning 13 = .ok (.iconst 1, 1) := by decide +kernel
theorem dX6_takesBeginning_14 : decode cX6_takesBeginning 14 = .ok (.ireturn, 1) := by decide +kernel
theorem dX6_takesBeginning_15 : decode cX6_takesBeginning 15 = .ok (.aload_n 1, 1) := by decide +kernel
theorem dX6_takesBeginning_16 : decode cX6_takesBeginning 16 = .ok (.ldc 89, 2) := by decide +kernel
theorem dX6_takesBeginning_18 : decode cX6_takesBeginning 18 = .ok (.invokevirtual 82, 3) := by decide +kernel
theorem dX6_takesBeginning_21 : decode cX6_takesBeginning 21 = .ok (.ifCond .eq 12, 3) := by decide +kernel
theorem dX6_takesBeginning_24 : decode cX6_takesBeginning 24 = .ok (.aload_n 0, 1) := by decide +kernel
theorem dX6_takesBeginning_25 : decode cX6_takesBeginning 25 = .ok (.ldc2_w 32, 3) := by decide +kernel
theorem dX6_takesBeginning_28 : decode cX6_takesBeginning 28 = .ok (.invokevirtual 91, 3) := by decide +kernel
theorem dX6_takesBeginning_31 : decode cX6_takesBeginning 31 = .ok (.iconst 1, 1) := by decide +kernel
theorem dX6_takesBeginning_32 : decode cX6_takesBeginning 32 = .ok (.ireturn, 1) := by decide +kernel
theorem dX6_takesBeginning_33 : decode cX6_takesBeginning 33 = .ok (.aload_n 1, 1) := by decide +kernel
theorem dX6_takesBeginning_34 : decode cX6_takesBeginning 34 = .ok (.ldc 94, 2) := by decide +kernel
theorem dX6_takesBeginning_36 : decode cX6_takesBeginning 36 = .ok (.invokevirtual 82, 3) := by decide +kernel
theorem dX6_takesBeginning_39 : decode cX6_takesBeginning 39 = .ok (.ifCond .eq 30, 3) := by decide +kernel
theorem dX6_takesBeginning_42 : decode cX6_takesBeginning 42 = .ok (.aload_n 0, 1) := by decide +kernel
theorem dX6_takesBeginning_43 : decode cX6_takesBeginning 43 = .ok (.getfield 22, 3) := by decide +kernel
theorem dX6_takesBeginning_46 : decode cX6_takesBeginning 46 = .ok (.iconst 4, 1) := by decide +kernel
theorem dX6_takesBeginning_47 : decode cX6_takesBeginning 47 = .ok (.if_icmp .lt 5, 3) := by decide +kernel
theorem dX6_takesBeginning_50 : decode cX6_takesBeginning 50 = .ok (.iconst 0, 1) := by decide +kernel
theorem dX6_takesBeginning_51 : decode cX6_takesBeginning 51 = .ok (.ireturn, 1) := by decide +kernel
theorem dX6_takesBeginning_52 : decode cX6_takesBeginning 52 = .ok (.aload_n 0, 1) := by decide +kernel
theorem dX6_takesBeginning_53 : decode cX6_takesBeginning 53 = .ok (.dup, 1) := by decide +kernel
theorem dX6_takesBeginning_54 : decode cX6_takesBeginning 54 = .ok (.getfield 22, 3) := by decide +kernel
theorem dX6_takesBeginning_57 : decode cX6_takesBeginning 57 = .ok (.iconst 1, 1) := by decide +kernel
theorem dX6_takesBeginning_58 : decode cX6_takesBeginning 58 = .ok (.iadd, 1) := by decide +kernel
theorem dX6_takesBeginning_59 : decode cX6_takesBeginning 59 = .ok (.putfield 22, 3) := by decide +kernel
theorem dX6_takesBeginning_62 : decode cX6_takesBeginning 62 = .ok (.aload_n 0, 1) := by decide +kernel
theorem dX6_takesBeginning_63 : decode cX6_takesBeginning 63 = .ok (.lconst 0, 1) := by decide +kernel
theorem dX6_takesBeginning_64 : decode cX6_takesBeginning 64 = .ok (.invokevirtual 43, 3) := by decide +kernel
theorem dX6_takesBeginning_67 : decode cX6_takesBeginning 67 = .ok (.iconst 1, 1) := by decide +kernel
theorem dX6_takesBeginning_68 : decode cX6_takesBeginning 68 = .ok (.ireturn, 1) := by decide +kernel
theorem dX6_takesBeginning_69 : decode cX6_takesBeginning 69 = .ok (.aload_n 0, 1) := by decide +kernel
theorem dX6_takesBeginning_70 : decode cX6_takesBeginning 70 = .ok (.aload_n 1, 1) := by decide +kernel
theorem dX6_takesBeginning_71 : decode cX6_takesBeginning 71 = .ok (.invokevirtual 96, 3) := by decide +kernel
theorem dX6_takesBeginning_74 : decode cX6_takesBeginning 74 = .ok (.ireturn, 1) := by decide +kernel
theorem dX6_takesTest_0 : decode cX6_takesTest 0 = .ok (.aload_n 1, 1) := by decide +kernel
theorem dX6_takesTest_1 : decode cX6_takesTest 1 = .ok (.ldc 99, 2) := by decide +kernel
theorem dX6_takesTest_3 : decode cX6_takesTest 3 = .ok (.invokevirtual 82, 3) := by decide +kernel
theorem dX6_takesTest_6 : decode cX6_takesTest 6 = .ok (.ifCond .eq 11, 3) := by decide +kernel
theorem dX6_takesTest_9 : decode cX6_takesTest 9 = .ok (.aload_n 0, 1) := by decide +kernel
theorem dX6_takesTest_10 : decode cX6_takesTest 10 = .ok (.iconst 0, 1) := by decide +kernel
theorem dX6_takesTest_11 : decode cX6_takesTest 11 = .ok (.putfield 29, 3) := by decide +kernel
theorem dX6_takesTest_14 : decode cX6_takesTest 14 = .ok (.goto 56, 3) := by decide +kernel
theorem dX6_takesTest_17 : decode cX6_takesTest 17 = .ok (.aload_n 1, 1) := by decide +kernel
theorem dX6_takesTest_18 : decode cX6_takesTest 18 = .ok (.ldc 101, 2) := by decide +kernel
theorem dX6_takesTest_20 : decode cX6_takesTest 20 = .ok (.invokevirtual 82, 3) := by decide +kernel
theorem dX6_takesTest_23 : decode cX6_takesTest 23 = .ok (.ifCond .eq 11, 3) := by decide +kernel
theorem dX6_takesTest_26 : decode cX6_takesTest 26 = .ok (.aload_n 0, 1) := by decide +kernel
theorem dX6_takesTest_27 : decode cX6_takesTest 27 = .ok (.iconst 1, 1) := by decide +kernel
theorem dX6_takesTest_28 : decode cX6_takesTest 28 = .ok (.putfield 29, 3) := by decide +kernel
theorem dX6_takesTest_31 : decode cX6_takesTest 31 = .ok (.goto 39, 3) := by decide +kernel
theorem dX6_takesTest_34 : decode cX6_takesTest 34 = .ok (.aload_n 1, 1) := by decide +kernel
theorem dX6_takesTest_35 : decode cX6_takesTest 35 = .ok (.ldc 103, 2) := by decide +kernel
theorem dX6_takesTest_37 : decode cX6_takesTest 37 = .ok (.invokevirtual 82, 3) := by decide +kernel
theorem dX6_takesTest_40 : decode cX6_takesTest 40 = .ok (.ifCond .eq 11, 3) := by decide +kernel
theorem dX6_takesTest_43 : decode cX6_takesTest 43 = .ok (.aload_n 0, 1) := by decide +kernel
theorem dX6_takesTest_44 : decode cX6_takesTest 44 = .ok (.iconst 2, 1) := by decide +kernel
theorem dX6_takesTest_45 : decode cX6_takesTest 45 = .ok (.putfield 29, 3) := by decide +kernel
theorem dX6_takesTest_48 : decode cX6_takesTest 48 = .ok (.goto 22, 3) := by decide +kernel
theorem dX6_takesTest_51 : decode cX6_takesTest 51 = .ok (.aload_n 1, 1) := by decide +kernel
theorem dX6_takesTest_52 : decode cX6_takesTest 52 = .ok (.ldc 105, 2) := by decide +kernel
theorem dX6_takesTest_54 : decode cX6_takesTest 54 = .ok (.invokevirtual 82, 3) := by decide +kernel
theorem dX6_takesTest_57 : decode cX6_takesTest 57 = .ok (.ifCond .eq 11, 3) := by decide +kernel
theorem dX6_takesTest_60 : decode cX6_takesTest 60 = .ok (.aload_n 0, 1) := by decide +kernel
theorem dX6_takesTest_61 : decode cX6_takesTest 61 = .ok (.iconst 3, 1) := by decide +kernel
theorem dX6_takesTest_62 : decode cX6_takesTest 62 = .ok (.putfield 29, 3) := by decide +kernel
theorem dX6_takesTest_65 : decode cX6_takesTest 65 = .ok (.goto 5, 3) := by decide +kernel
theorem dX6_takesTest_68 : decode cX6_takesTest 68 = .ok (.iconst 0, 1) := by decide +kernel
theorem dX6_takesTest_69 : decode cX6_takesTest 69 = .ok (.ireturn, 1) := by decide +kernel
theorem dX6_takesTest_70 : decode cX6_takesTest 70 = .ok (.aload_n 0, 1) := by decide +kernel
theorem dX6_takesTest_71 : decode cX6_takesTest 71 = .ok (.iconst 1, 1) := by decide +kernel
theorem dX6_takesTest_72 : decode cX6_takesTest 72 = .ok (.putfield 26, 3) := by decide +kernel
theorem dX6_takesTest_75 : decode cX6_takesTest 75 = .ok (.iconst 1, 1) := by decide +kernel
theorem dX6_takesTest_76 : decode cX6_takesTest 76 = .ok (.ireturn, 1) := by decide +kernel
theorem dX6_takesNumber_0 : decode cX6_takesNumber 0 = .ok (.iload_n 1, 1) := by decide +kernel
theorem dX6_takesNumber_1 : decode cX6_takesNumber 1 = .ok (.ifCond .lt 15, 3) := by decide +kernel
theorem dX6_takesNumber_4 : decode cX6_takesNumber 4 = .ok (.iload_n 1, 1) := by decide +kernel
theorem dX6_takesNumber_5 : decode cX6_takesNumber 5 = .ok (.ifCond .ne 13, 3) := by decide +kernel
theorem dX6_takesNumber_8 : decode cX6_takesNumber 8 = .ok (.aload_n 0, 1) := by decide +kernel
theorem dX6_takesNumber_9 : decode cX6_takesNumber 9 = .ok (.getfield 29, 3) := by decide +kernel
theorem dX6_takesNumber_12 : decode cX6_takesNumber 12 = .ok (.iconst 2, 1) := by decide +kernel
theorem dX6_takesNumber_13 : decode cX6_takesNumber 13 = .ok (.if_icmp .ne 5, 3) := by decide +kernel
theorem dX6_takesNumber_16 : decode cX6_takesNumber 16 = .ok (.iconst 0, 1) := by decide +kernel
theorem dX6_takesNumber_17 : decode cX6_takesNumber 17 = .ok (.ireturn, 1) := by decide +kernel
theorem dX6_takesNumber_18 : decode cX6_takesNumber 18 = .ok (.aload_n 0, 1) := by decide +kernel
theorem dX6_takesNumber_19 : decode cX6_takesNumber 19 = .ok (.aload_n 0, 1) := by decide +kernel
theorem dX6_takesNumber_20 : decode cX6_takesNumber 20 = .ok (.iload_n 1, 1) := by decide +kernel
theorem dX6_takesNumber_21 : decode cX6_takesNumber 21 = .ok (.invokevirtual 107, 3) := by decide +kernel
theorem dX6_takesNumber_24 : decode cX6_takesNumber 24 = .ok (.invokevirtual 91, 3) := by decide +kernel
theorem dX6_takesNumber_27 : decode cX6_takesNumber 27 = .ok (.iconst 1, 1) := by decide +kernel
theorem dX6_takesNumber_28 : decode cX6_takesNumber 28 = .ok (.ireturn, 1) := by decide +kernel
theorem dX6_takesJoint_0 : decode cX6_takesJoint 0 = .ok (.aload_n 1, 1) := by decide +kernel
theorem dX6_takesJoint_1 : decode cX6_takesJoint 1 = .ok (.ldc 111, 2) := by decide +kernel
theorem dX6_takesJoint_3 : decode cX6_takesJoint 3 = .ok (.invokevirtual 82, 3) := by decide +kernel
theorem dX6_takesJoint_6 : decode cX6_takesJoint 6 = .ok (.ifCond .eq 10, 3) := by decide +kernel
theorem dX6_takesJoint_9 : decode cX6_takesJoint 9 = .ok (.aload_n 0, 1) := by decide +kernel
theorem dX6_takesJoint_10 : decode cX6_takesJoint 10 = .ok (.iconst 0, 1) := by decide +kernel
theorem dX6_takesJoint_11 : decode cX6_takesJoint 11 = .ok (.putfield 26, 3) := by decide +kernel
theorem dX6_takesJoint_14 : decode cX6_takesJoint 14 = .ok (.iconst 1, 1) := by decide +kernel
theorem dX6_takesJoint_15 : decode cX6_takesJoint 15 = .ok (.ireturn, 1) := by decide +kernel
theorem dX6_takesJoint_16 : decode cX6_takesJoint 16 = .ok (.aload_n 1, 1) := by decide +kernel
theorem dX6_takesJoint_17 : decode cX6_takesJoint 17 = .ok (.ldc 113, 2) := by decide +kernel
theorem dX6_takesJoint_19 : decode cX6_takesJoint 19 = .ok (.invokevirtual 82, 3) := by decide +kernel
theorem dX6_takesJoint_22 : decode cX6_takesJoint 22 = .ok (.ifCond .eq 13, 3) := by decide +kernel
theorem dX6_takesJoint_25 : decode cX6_takesJoint 25 = .ok (.aload_n 0, 1) := by decide +kernel
theorem dX6_takesJoint_26 : decode cX6_takesJoint 26 = .ok (.aload_n 0, 1) := by decide +kernel
theorem dX6_takesJoint_27 : decode cX6_takesJoint 27 = .ok (.invokevirtual 62, 3) := by decide +kernel
theorem dX6_takesJoint_30 : decode cX6_takesJoint 30 = .ok (.invokevirtual 43, 3) := by decide +kernel
theorem dX6_takesJoint_33 : decode cX6_takesJoint 33 = .ok (.iconst 1, 1) := by decide +kernel
theorem dX6_takesJoint_34 : decode cX6_takesJoint 34 = .ok (.ireturn, 1) := by decide +kernel
theorem dX6_takesJoint_35 : decode cX6_takesJoint 35 = .ok (.aload_n 1, 1) := by decide +kernel
theorem dX6_takesJoint_36 : decode cX6_takesJoint 36 = .ok (.ldc 115, 2) := by decide +kernel
theorem dX6_takesJoint_38 : decode cX6_takesJoint 38 = .ok (.invokevirtual 82, 3) := by decide +kernel
theorem dX6_takesJoint_41 : decode cX6_takesJoint 41 = .ok (.ifCond .eq 11, 3) := by decide +kernel
theorem dX6_takesJoint_44 : decode cX6_takesJoint 44 = .ok (.aload_n 0, 1) := by decide +kernel
theorem dX6_takesJoint_45 : decode cX6_takesJoint 45 = .ok (.getfield 22, 3) := by decide +kernel
theorem dX6_takesJoint_48 : decode cX6_takesJoint 48 = .ok (.iconst 1, 1) := by decide +kernel
theorem dX6_takesJoint_49 : decode cX6_takesJoint 49 = .ok (.if_icmp .ge 5, 3) := by decide +kernel
theorem dX6_takesJoint_52 : decode cX6_takesJoint 52 = .ok (.iconst 0, 1) := by decide +kernel
theorem dX6_takesJoint_53 : decode cX6_takesJoint 53 = .ok (.ireturn, 1) := by decide +kernel
theorem dX6_takesJoint_54 : decode cX6_takesJoint 54 = .ok (.aload_n 0, 1) := by decide +kernel
theorem dX6_takesJoint_55 : decode cX6_takesJoint 55 = .ok (.invokevirtual 62, 3) := by decide +kernel
theorem dX6_takesJoint_58 : decode cX6_takesJoint 58 = .ok (.lstore_n 2, 1) := by decide +kernel
theorem dX6_takesJoint_59 : decode cX6_takesJoint 59 = .ok (.aload_n 0, 1) := by decide +kernel
theorem dX6_takesJoint_60 : decode cX6_takesJoint 60 = .ok (.dup, 1) := by decide +kernel
theorem dX6_takesJoint_61 : decode cX6_takesJoint 61 = .ok (.getfield 22, 3) := by decide +kernel
theorem dX6_takesJoint_64 : decode cX6_takesJoint 64 = .ok (.iconst 1, 1) := by decide +kernel
theorem dX6_takesJoint_65 : decode cX6_takesJoint 65 = .ok (.isub, 1) := by decide +kernel
theorem dX6_takesJoint_66 : decode cX6_takesJoint 66 = .ok (.putfield 22, 3) := by decide +kernel
theorem dX6_takesJoint_69 : decode cX6_takesJoint 69 = .ok (.aload_n 0, 1) := by decide +kernel
theorem dX6_takesJoint_70 : decode cX6_takesJoint 70 = .ok (.lload_n 2, 1) := by decide +kernel
theorem dX6_takesJoint_71 : decode cX6_takesJoint 71 = .ok (.invokevirtual 91, 3) := by decide +kernel
theorem dX6_takesJoint_74 : decode cX6_takesJoint 74 = .ok (.iconst 1, 1) := by decide +kernel
theorem dX6_takesJoint_75 : decode cX6_takesJoint 75 = .ok (.ireturn, 1) := by decide +kernel
theorem dX6_isLevel_0 : decode cX6_isLevel 0 = .ok (.aload_n 0, 1) := by decide +kernel
theorem dX6_isLevel_1 : decode cX6_isLevel 1 = .ok (.getfield 22, 3) := by decide +kernel
theorem dX6_isLevel_4 : decode cX6_isLevel 4 = .ok (.ifCond .lt 15, 3) := by decide +kernel
theorem dX6_isLevel_7 : decode cX6_isLevel 7 = .ok (.aload_n 0, 1) := by decide +kernel
theorem dX6_isLevel_8 : decode cX6_isLevel 8 = .ok (.getfield 22, 3) := by decide +kernel
theorem dX6_isLevel_11 : decode cX6_isLevel 11 = .ok (.iconst 4, 1) := by decide +kernel
theorem dX6_isLevel_12 : decode cX6_isLevel 12 = .ok (.if_icmp .gt 7, 3) := by decide +kernel
theorem dX6_isLevel_15 : decode cX6_isLevel 15 = .ok (.iconst 1, 1) := by decide +kernel
theorem dX6_isLevel_16 : decode cX6_isLevel 16 = .ok (.goto 4, 3) := by decide +kernel
theorem dX6_isLevel_19 : decode cX6_isLevel 19 = .ok (.iconst 0, 1) := by decide +kernel
theorem dX6_isLevel_20 : decode cX6_isLevel 20 = .ok (.ireturn, 1) := by decide +kernel
theorem dX6_soFar_0 : decode cX6_soFar 0 = .ok (.aload_n 0, 1) := by decide +kernel
theorem dX6_soFar_1 : decode cX6_soFar 1 = .ok (.invokevirtual 117, 3) := by decide +kernel
theorem dX6_soFar_4 : decode cX6_soFar 4 = .ok (.ifCond .eq 25, 3) := by decide +kernel
theorem dX6_soFar_7 : decode cX6_soFar 7 = .ok (.aload_n 0, 1) := by decide +kernel
theorem dX6_soFar_8 : decode cX6_soFar 8 = .ok (.getfield 9, 3) := by decide +kernel
theorem dX6_soFar_11 : decode cX6_soFar 11 = .ok (.aload_n 0, 1) := by decide +kernel
theorem dX6_soFar_12 : decode cX6_soFar 12 = .ok (.getfield 22, 3) := by decide +kernel
theorem dX6_soFar_15 : decode cX6_soFar 15 = .ok (.laload, 1) := by decide +kernel
theorem dX6_soFar_16 : decode cX6_soFar 16 = .ok (.aload_n 0, 1) := by decide +kernel
theorem dX6_soFar_17 : decode cX6_soFar 17 = .ok (.getfield 15, 3) := by decide +kernel
theorem dX6_soFar_20 : decode cX6_soFar 20 = .ok (.aload_n 0, 1) := by decide +kernel
theorem dX6_soFar_21 : decode cX6_soFar 21 = .ok (.getfield 22, 3) := by decide +kernel
theorem dX6_soFar_24 : decode cX6_soFar 24 = .ok (.laload, 1) := by decide +kernel
theorem dX6_soFar_25 : decode cX6_soFar 25 = .ok (.lor, 1) := by decide +kernel
theorem dX6_soFar_26 : decode cX6_soFar 26 = .ok (.goto 4, 3) := by decide +kernel
theorem dX6_soFar_29 : decode cX6_soFar 29 = .ok (.lconst 0, 1) := by decide +kernel
theorem dX6_soFar_30 : decode cX6_soFar 30 = .ok (.lreturn, 1) := by decide +kernel
theorem dX6_begin_0 : decode cX6_begin 0 = .ok (.aload_n 0, 1) := by decide +kernel
theorem dX6_begin_1 : decode cX6_begin 1 = .ok (.invokevirtual 117, 3) := by decide +kernel
theorem dX6_begin_4 : decode cX6_begin 4 = .ok (.ifCond .eq 35, 3) := by decide +kernel
theorem dX6_begin_7 : decode cX6_begin 7 = .ok (.aload_n 0, 1) := by decide +kernel
theorem dX6_begin_8 : decode cX6_begin 8 = .ok (.getfield 9, 3) := by decide +kernel
theorem dX6_begin_11 : decode cX6_begin 11 = .ok (.aload_n 0, 1) := by decide +kernel
theorem dX6_begin_12 : decode cX6_begin 12 = .ok (.getfield 22, 3) := by decide +kernel
theorem dX6_begin_15 : decode cX6_begin 15 = .ok (.lload_n 1, 1) := by decide +kernel
theorem dX6_begin_16 : decode cX6_begin 16 = .ok (.lastore, 1) := by decide +kernel
theorem dX6_begin_17 : decode cX6_begin 17 = .ok (.aload_n 0, 1) := by decide +kernel
theorem dX6_begin_18 : decode cX6_begin 18 = .ok (.getfield 15, 3) := by decide +kernel
theorem dX6_begin_21 : decode cX6_begin 21 = .ok (.aload_n 0, 1) := by decide +kernel
theorem dX6_begin_22 : decode cX6_begin 22 = .ok (.getfield 22, 3) := by decide +kernel
theorem dX6_begin_25 : decode cX6_begin 25 = .ok (.ldc2_w 32, 3) := by decide +kernel
theorem dX6_begin_28 : decode cX6_begin 28 = .ok (.lastore, 1) := by decide +kernel
theorem dX6_begin_29 : decode cX6_begin 29 = .ok (.aload_n 0, 1) := by decide +kernel
theorem dX6_begin_30 : decode cX6_begin 30 = .ok (.getfield 18, 3) := by decide +kernel
theorem dX6_begin_33 : decode cX6_begin 33 = .ok (.aload_n 0, 1) := by decide +kernel
theorem dX6_begin_34 : decode cX6_begin 34 = .ok (.getfield 22, 3) := by decide +kernel
theorem dX6_begin_37 : decode cX6_begin 37 = .ok (.iconst 0, 1) := by decide +kernel
theorem dX6_begin_38 : decode cX6_begin 38 = .ok (.bastore, 1) := by decide +kernel
theorem dX6_begin_39 : decode cX6_begin 39 = .ok (.aload_n 0, 1) := by decide +kernel
theorem dX6_begin_40 : decode cX6_begin 40 = .ok (.iconst 0, 1) := by decide +kernel
theorem dX6_begin_41 : decode cX6_begin 41 = .ok (.putfield 26, 3) := by decide +kernel
theorem dX6_begin_44 : decode cX6_begin 44 = .ok (.return_, 1) := by decide +kernel
theorem dX6_deny_0 : decode cX6_deny 0 = .ok (.aload_n 0, 1) := by decide +kernel
theorem dX6_deny_1 : decode cX6_deny 1 = .ok (.invokevirtual 117, 3) := by decide +kernel
theorem dX6_deny_4 : decode cX6_deny 4 = .ok (.ifCond .eq 29, 3) := by decide +kernel
theorem dX6_deny_7 : decode cX6_deny 7 = .ok (.aload_n 0, 1) := by decide +kernel
theorem dX6_deny_8 : decode cX6_deny 8 = .ok (.getfield 18, 3) := by decide +kernel
theorem dX6_deny_11 : decode cX6_deny 11 = .ok (.aload_n 0, 1) := by decide +kernel
theorem dX6_deny_12 : decode cX6_deny 12 = .ok (.getfield 22, 3) := by decide +kernel
theorem dX6_deny_15 : decode cX6_deny 15 = .ok (.aload_n 0, 1) := by decide +kernel
theorem dX6_deny_16 : decode cX6_deny 16 = .ok (.getfield 18, 3) := by decide +kernel
theorem dX6_deny_19 : decode cX6_deny 19 = .ok (.aload_n 0, 1) := by decide +kernel
theorem dX6_deny_20 : decode cX6_deny 20 = .ok (.getfield 22, 3) := by decide +kernel
theorem dX6_deny_23 : decode cX6_deny 23 = .ok (.baload, 1) := by decide +kernel
theorem dX6_deny_24 : decode cX6_deny 24 = .ok (.ifCond .ne 7, 3) := by decide +kernel
theorem dX6_deny_27 : decode cX6_deny 27 = .ok (.iconst 1, 1) := by decide +kernel
theorem dX6_deny_28 : decode cX6_deny 28 = .ok (.goto 4, 3) := by decide +kernel
theorem dX6_deny_31 : decode cX6_deny 31 = .ok (.iconst 0, 1) := by decide +kernel
theorem dX6_deny_32 : decode cX6_deny 32 = .ok (.bastore, 1) := by decide +kernel
theorem dX6_deny_33 : decode cX6_deny 33 = .ok (.return_, 1) := by decide +kernel
theorem dX6_hold_0 : decode cX6_hold 0 = .ok (.aload_n 0, 1) := by decide +kernel
theorem dX6_hold_1 : decode cX6_hold 1 = .ok (.invokevirtual 117, 3) := by decide +kernel
theorem dX6_hold_4 : decode cX6_hold 4 = .ok (.ifCond .eq 50, 3) := by decide +kernel
theorem dX6_hold_7 : decode cX6_hold 7 = .ok (.aload_n 0, 1) := by decide +kernel
theorem dX6_hold_8 : decode cX6_hold 8 = .ok (.getfield 15, 3) := by decide +kernel
theorem dX6_hold_11 : decode cX6_hold 11 = .ok (.aload_n 0, 1) := by decide +kernel
theorem dX6_hold_12 : decode cX6_hold 12 = .ok (.getfield 22, 3) := by decide +kernel
theorem dX6_hold_15 : decode cX6_hold 15 = .ok (.dup2, 1) := by decide +kernel
theorem dX6_hold_16 : decode cX6_hold 16 = .ok (.laload, 1) := by decide +kernel
theorem dX6_hold_17 : decode cX6_hold 17 = .ok (.aload_n 0, 1) := by decide +kernel
theorem dX6_hold_18 : decode cX6_hold 18 = .ok (.getfield 18, 3) := by decide +kernel
theorem dX6_hold_21 : decode cX6_hold 21 = .ok (.aload_n 0, 1) := by decide +kernel
theorem dX6_hold_22 : decode cX6_hold 22 = .ok (.getfield 22, 3) := by decide +kernel
theorem dX6_hold_25 : decode cX6_hold 25 = .ok (.baload, 1) := by decide +kernel
theorem dX6_hold_26 : decode cX6_hold 26 = .ok (.ifCond .eq 15, 3) := by decide +kernel
theorem dX6_hold_29 : decode cX6_hold 29 = .ok (.ldc2_w 32, 3) := by decide +kernel
theorem dX6_hold_32 : decode cX6_hold 32 = .ok (.lload_n 1, 1) := by decide +kernel
theorem dX6_hold_33 : decode cX6_hold 33 = .ok (.ldc2_w 120, 3) := by decide +kernel
theorem dX6_hold_36 : decode cX6_hold 36 = .ok (.lxor, 1) := by decide +kernel
theorem dX6_hold_37 : decode cX6_hold 37 = .ok (.land, 1) := by decide +kernel
theorem dX6_hold_38 : decode cX6_hold 38 = .ok (.goto 4, 3) := by decide +kernel
theorem dX6_hold_41 : decode cX6_hold 41 = .ok (.lload_n 1, 1) := by decide +kernel
theorem dX6_hold_42 : decode cX6_hold 42 = .ok (.land, 1) := by decide +kernel
theorem dX6_hold_43 : decode cX6_hold 43 = .ok (.lastore, 1) := by decide +kernel
theorem dX6_hold_44 : decode cX6_hold 44 = .ok (.aload_n 0, 1) := by decide +kernel
theorem dX6_hold_45 : decode cX6_hold 45 = .ok (.getfield 18, 3) := by decide +kernel
theorem dX6_hold_48 : decode cX6_hold 48 = .ok (.aload_n 0, 1) := by decide +kernel
theorem dX6_hold_49 : decode cX6_hold 49 = .ok (.getfield 22, 3) := by decide +kernel
theorem dX6_hold_52 : decode cX6_hold 52 = .ok (.iconst 0, 1) := by decide +kernel
theorem dX6_hold_53 : decode cX6_hold 53 = .ok (.bastore, 1) := by decide +kernel
theorem dX6_hold_54 : decode cX6_hold 54 = .ok (.aload_n 0, 1) := by decide +kernel
theorem dX6_hold_55 : decode cX6_hold 55 = .ok (.iconst 2, 1) := by decide +kernel
theorem dX6_hold_56 : decode cX6_hold 56 = .ok (.putfield 26, 3) := by decide +kernel
theorem dX6_hold_59 : decode cX6_hold 59 = .ok (.return_, 1) := by decide +kernel
theorem dX6_setOf_0 : decode cX6_setOf 0 = .ok (.lconst 0, 1) := by decide +kernel
theorem dX6_setOf_1 : decode cX6_setOf 1 = .ok (.lstore_n 2, 1) := by decide +kernel
theorem dX6_setOf_2 : decode cX6_setOf 2 = .ok (.iconst 0, 1) := by decide +kernel
theorem dX6_setOf_3 : decode cX6_setOf 3 = .ok (.istore 4, 2) := by decide +kernel
theorem dX6_setOf_5 : decode cX6_setOf 5 = .ok (.iload 4, 2) := by decide +kernel
theorem dX6_setOf_7 : decode cX6_setOf 7 = .ok (.bipush 60, 2) := by decide +kernel
theorem dX6_setOf_9 : decode cX6_setOf 9 = .ok (.if_icmp .gt 26, 3) := by decide +kernel
theorem dX6_setOf_12 : decode cX6_setOf 12 = .ok (.aload_n 0, 1) := by decide +kernel
theorem dX6_setOf_13 : decode cX6_setOf 13 = .ok (.iload 4, 2) := by decide +kernel
theorem dX6_setOf_15 : decode cX6_setOf 15 = .ok (.iload_n 1, 1) := by decide +kernel
theorem dX6_setOf_16 : decode cX6_setOf 16 = .ok (.invokevirtual 122, 3) := by decide +kernel
theorem dX6_setOf_19 : decode cX6_setOf 19 = .ok (.ifCond .eq 10, 3) := by decide +kernel
theorem dX6_setOf_22 : decode cX6_setOf 22 = .ok (.lload_n 2, 1) := by decide +kernel
theorem dX6_setOf_23 : decode cX6_setOf 23 = .ok (.lconst 1, 1) := by decide +kernel
theorem dX6_setOf_24 : decode cX6_setOf 24 = .ok (.iload 4, 2) := by decide +kernel
theorem dX6_setOf_26 : decode cX6_setOf 26 = .ok (.lshl, 1) := by decide +kernel
theorem dX6_setOf_27 : decode cX6_setOf 27 = .ok (.lor, 1) := by decide +kernel
theorem dX6_setOf_28 : decode cX6_setOf 28 = .ok (.lstore_n 2, 1) := by decide +kernel
theorem dX6_setOf_29 : decode cX6_setOf 29 = .ok (.iinc 4 1, 3) := by decide +kernel
theorem dX6_setOf_32 : decode cX6_setOf 32 = .ok (.goto (-27), 3) := by decide +kernel
theorem dX6_setOf_35 : decode cX6_setOf 35 = .ok (.lload_n 2, 1) := by decide +kernel
theorem dX6_setOf_36 : decode cX6_setOf 36 = .ok (.lreturn, 1) := by decide +kernel
theorem dX6_passes_0 : decode cX6_passes 0 = .ok (.aload_n 0, 1) := by decide +kernel
theorem dX6_passes_1 : decode cX6_passes 1 = .ok (.getfield 29, 3) := by decide +kernel
theorem dX6_passes_4 : decode cX6_passes 4 = .ok (.tableswitch 66 0 2 #[28, 39, 50], 28) := by decide +kernel
theorem dX6_passes_32 : decode cX6_passes 32 = .ok (.iload_n 1, 1) := by decide +kernel
theorem dX6_passes_33 : decode cX6_passes 33 = .ok (.iload_n 2, 1) := by decide +kernel
theorem dX6_passes_34 : decode cX6_passes 34 = .ok (.if_icmp .gt 7, 3) := by decide +kernel
theorem dX6_passes_37 : decode cX6_passes 37 = .ok (.iconst 1, 1) := by decide +kernel
theorem dX6_passes_38 : decode cX6_passes 38 = .ok (.goto 4, 3) := by decide +kernel
theorem dX6_passes_41 : decode cX6_passes 41 = .ok (.iconst 0, 1) := by decide +kernel
theorem dX6_passes_42 : decode cX6_passes 42 = .ok (.ireturn, 1) := by decide +kernel
theorem dX6_passes_43 : decode cX6_passes 43 = .ok (.iload_n 1, 1) := by decide +kernel
theorem dX6_passes_44 : decode cX6_passes 44 = .ok (.iload_n 2, 1) := by decide +kernel
theorem dX6_passes_45 : decode cX6_passes 45 = .ok (.if_icmp .lt 7, 3) := by decide +kernel
theorem dX6_passes_48 : decode cX6_passes 48 = .ok (.iconst 1, 1) := by decide +kernel
theorem dX6_passes_49 : decode cX6_passes 49 = .ok (.goto 4, 3) := by decide +kernel
theorem dX6_passes_52 : decode cX6_passes 52 = .ok (.iconst 0, 1) := by decide +kernel
theorem dX6_passes_53 : decode cX6_passes 53 = .ok (.ireturn, 1) := by decide +kernel
theorem dX6_passes_54 : decode cX6_passes 54 = .ok (.iload_n 2, 1) := by decide +kernel
theorem dX6_passes_55 : decode cX6_passes 55 = .ok (.ifCond .le 13, 3) := by decide +kernel
theorem dX6_passes_58 : decode cX6_passes 58 = .ok (.iload_n 1, 1) := by decide +kernel
theorem dX6_passes_59 : decode cX6_passes 59 = .ok (.iload_n 2, 1) := by decide +kernel
theorem dX6_passes_60 : decode cX6_passes 60 = .ok (.irem, 1) := by decide +kernel
theorem dX6_passes_61 : decode cX6_passes 61 = .ok (.ifCond .ne 7, 3) := by decide +kernel
theorem dX6_passes_64 : decode cX6_passes 64 = .ok (.iconst 1, 1) := by decide +kernel
theorem dX6_passes_65 : decode cX6_passes 65 = .ok (.goto 4, 3) := by decide +kernel
theorem dX6_passes_68 : decode cX6_passes 68 = .ok (.iconst 0, 1) := by decide +kernel
theorem dX6_passes_69 : decode cX6_passes 69 = .ok (.ireturn, 1) := by decide +kernel
theorem dX6_passes_70 : decode cX6_passes 70 = .ok (.iload_n 1, 1) := by decide +kernel
theorem dX6_passes_71 : decode cX6_passes 71 = .ok (.iload_n 2, 1) := by decide +kernel
theorem dX6_passes_72 : decode cX6_passes 72 = .ok (.if_icmp .ne 7, 3) := by decide +kernel
theorem dX6_passes_75 : decode cX6_passes 75 = .ok (.iconst 1, 1) := by decide +kernel
theorem dX6_passes_76 : decode cX6_passes 76 = .ok (.goto 4, 3) := by decide +kernel
theorem dX6_passes_79 : decode cX6_passes 79 = .ok (.iconst 0, 1) := by decide +kernel
theorem dX6_passes_80 : decode cX6_passes 80 = .ok (.ireturn, 1) := by decide +kernel
theorem dX7_init_0 : decode cX7_init 0 = .ok (.aload_n 0, 1) := by decide +kernel
theorem dX7_init_1 : decode cX7_init 1 = .ok (.invokespecial 3, 3) := by decide +kernel
theorem dX7_init_4 : decode cX7_init 4 = .ok (.aload_n 0, 1) := by decide +kernel
theorem dX7_init_5 : decode cX7_init 5 = .ok (.bipush 60, 2) := by decide +kernel
theorem dX7_init_7 : decode cX7_init 7 = .ok (.newarray .long, 2) := by decide +kernel
theorem dX7_init_9 : decode cX7_init 9 = .ok (.putfield 9, 3) := by decide +kernel
theorem dX7_init_12 : decode cX7_init 12 = .ok (.aload_n 0, 1) := by decide +kernel
theorem dX7_init_13 : decode cX7_init 13 = .ok (.iconst (-1), 1) := by decide +kernel
theorem dX7_init_14 : decode cX7_init 14 = .ok (.putfield 15, 3) := by decide +kernel
theorem dX7_init_17 : decode cX7_init 17 = .ok (.aload_n 0, 1) := by decide +kernel
theorem dX7_init_18 : decode cX7_init 18 = .ok (.iconst 0, 1) := by decide +kernel
theorem dX7_init_19 : decode cX7_init 19 = .ok (.putfield 19, 3) := by decide +kernel
theorem dX7_init_22 : decode cX7_init 22 = .ok (.return_, 1) := by decide +kernel
theorem dX7_become_0 : decode cX7_become 0 = .ok (.aload_n 0, 1) := by decide +kernel
theorem dX7_become_1 : decode cX7_become 1 = .ok (.iload_n 1, 1) := by decide +kernel
theorem dX7_become_2 : decode cX7_become 2 = .ok (.putfield 15, 3) := by decide +kernel
theorem dX7_become_5 : decode cX7_become 5 = .ok (.aload_n 0, 1) := by decide +kernel
theorem dX7_become_6 : decode cX7_become 6 = .ok (.iconst 0, 1) := by decide +kernel
theorem dX7_become_7 : decode cX7_become 7 = .ok (.iload_n 2, 1) := by decide +kernel
theorem dX7_become_8 : decode cX7_become 8 = .ok (.bipush 60, 2) := by decide +kernel
theorem dX7_become_10 : decode cX7_become 10 = .ok (.invokestatic 22, 3) := by decide +kernel
theorem dX7_become_13 : decode cX7_become 13 = .ok (.invokestatic 28, 3) := by decide +kernel
theorem dX7_become_16 : decode cX7_become 16 = .ok (.putfield 19, 3) := by decide +kernel
theorem dX7_become_19 : decode cX7_become 19 = .ok (.aload_n 0, 1) := by decide +kernel
theorem dX7_become_20 : decode cX7_become 20 = .ok (.getfield 9, 3) := by decide +kernel
theorem dX7_become_23 : decode cX7_become 23 = .ok (.lconst 0, 1) := by decide +kernel
theorem dX7_become_24 : decode cX7_become 24 = .ok (.invokestatic 31, 3) := by decide +kernel
theorem dX7_become_27 : decode cX7_become 27 = .ok (.return_, 1) := by decide +kernel
theorem dX7_hasPlace_0 : decode cX7_hasPlace 0 = .ok (.iload_n 1, 1) := by decide +kernel
theorem dX7_hasPlace_1 : decode cX7_hasPlace 1 = .ok (.ifCond .lt 21, 3) := by decide +kernel
theorem dX7_hasPlace_4 : decode cX7_hasPlace 4 = .ok (.iload_n 1, 1) := by decide +kernel
theorem dX7_hasPlace_5 : decode cX7_hasPlace 5 = .ok (.aload_n 0, 1) := by decide +kernel
theorem dX7_hasPlace_6 : decode cX7_hasPlace 6 = .ok (.getfield 19, 3) := by decide +kernel
theorem dX7_hasPlace_9 : decode cX7_hasPlace 9 = .ok (.if_icmp .ge 13, 3) := by decide +kernel
theorem dX7_hasPlace_12 : decode cX7_hasPlace 12 = .ok (.iload_n 1, 1) := by decide +kernel
theorem dX7_hasPlace_13 : decode cX7_hasPlace 13 = .ok (.bipush 60, 2) := by decide +kernel
theorem dX7_hasPlace_15 : decode cX7_hasPlace 15 = .ok (.if_icmp .ge 7, 3) := by decide +kernel
theorem dX7_hasPlace_18 : decode cX7_hasPlace 18 = .ok (.iconst 1, 1) := by decide +kernel
theorem dX7_hasPlace_19 : decode cX7_hasPlace 19 = .ok (.goto 4, 3) := by decide +kernel
theorem dX7_hasPlace_22 : decode cX7_hasPlace 22 = .ok (.iconst 0, 1) := by decide +kernel
theorem dX7_hasPlace_23 : decode cX7_hasPlace 23 = .ok (.ireturn, 1) := by decide +kernel
theorem dX7_cut_0 : decode cX7_cut 0 = .ok (.aload_n 0, 1) := by decide +kernel
theorem dX7_cut_1 : decode cX7_cut 1 = .ok (.getfield 15, 3) := by decide +kernel
theorem dX7_cut_4 : decode cX7_cut 4 = .ok (.lookupswitch 38 #[(0, 28), (1, 33)], 28) := by decide +kernel
theorem dX7_cut_32 : decode cX7_cut 32 = .ok (.lload_n 1, 1) := by decide +kernel
theorem dX7_cut_33 : decode cX7_cut 33 = .ok (.l2i, 1) := by decide +kernel
theorem dX7_cut_34 : decode cX7_cut 34 = .ok (.i2b, 1) := by decide +kernel
theorem dX7_cut_35 : decode cX7_cut 35 = .ok (.i2l, 1) := by decide +kernel
theorem dX7_cut_36 : decode cX7_cut 36 = .ok (.lreturn, 1) := by decide +kernel
theorem dX7_cut_37 : decode cX7_cut 37 = .ok (.lload_n 1, 1) := by decide +kernel
theorem dX7_cut_38 : decode cX7_cut 38 = .ok (.l2i, 1) := by decide +kernel
theorem dX7_cut_39 : decode cX7_cut 39 = .ok (.i2s, 1) := by decide +kernel
theorem dX7_cut_40 : decode cX7_cut 40 = .ok (.i2l, 1) := by decide +kernel
theorem dX7_cut_41 : decode cX7_cut 41 = .ok (.lreturn, 1) := by decide +kernel
theorem dX7_cut_42 : decode cX7_cut 42 = .ok (.lload_n 1, 1) := by decide +kernel
theorem dX7_cut_43 : decode cX7_cut 43 = .ok (.lreturn, 1) := by decide +kernel
theorem dX7_greatest_0 : decode cX7_greatest 0 = .ok (.aload_n 0, 1) := by decide +kernel
theorem dX7_greatest_1 : decode cX7_greatest 1 = .ok (.getfield 15, 3) := by decide +kernel
theorem dX7_greatest_4 : decode cX7_greatest 4 = .ok (.ifCond .ne 9, 3) := by decide +kernel
theorem dX7_greatest_7 : decode cX7_greatest 7 = .ok (.ldc2_w 37, 3) := by decide +kernel
theorem dX7_greatest_10 : decode cX7_greatest 10 = .ok (.goto 6, 3) := by decide +kernel
theorem dX7_greatest_13 : decode cX7_greatest 13 = .ok (.ldc2_w 39, 3) := by decide +kernel
theorem dX7_greatest_16 : decode cX7_greatest 16 = .ok (.lreturn, 1) := by decide +kernel
theorem dX7_lastUp_0 : decode cX7_lastUp 0 = .ok (.iload_n 1, 1) := by decide +kernel
theorem dX7_lastUp_1 : decode cX7_lastUp 1 = .ok (.iconst 1, 1) := by decide +kernel
theorem dX7_lastUp_2 : decode cX7_lastUp 2 = .ok (.if_icmp .lt 11, 3) := by decide +kernel
theorem dX7_lastUp_5 : decode cX7_lastUp 5 = .ok (.aload_n 0, 1) := by decide +kernel
theorem dX7_lastUp_6 : decode cX7_lastUp 6 = .ok (.getfield 19, 3) := by decide +kernel
theorem dX7_lastUp_9 : decode cX7_lastUp 9 = .ok (.iconst 1, 1) := by decide +kernel
theorem dX7_lastUp_10 : decode cX7_lastUp 10 = .ok (.if_icmp .ge 7, 3) := by decide +kernel
theorem dX7_lastUp_13 : decode cX7_lastUp 13 = .ok (.iconst 0, 1) := by decide +kernel
theorem dX7_lastUp_14 : decode cX7_lastUp 14 = .ok (.goto 11, 3) := by decide +kernel
theorem dX7_lastUp_17 : decode cX7_lastUp 17 = .ok (.aload_n 0, 1) := by decide +kernel
theorem dX7_lastUp_18 : decode cX7_lastUp 18 = .ok (.getfield 19, 3) := by decide +kernel
theorem dX7_lastUp_21 : decode cX7_lastUp 21 = .ok (.iconst 1, 1) := by decide +kernel
theorem dX7_lastUp_22 : decode cX7_lastUp 22 = .ok (.isub, 1) := by decide +kernel
theorem dX7_lastUp_23 : decode cX7_lastUp 23 = .ok (.iload_n 1, 1) := by decide +kernel
theorem dX7_lastUp_24 : decode cX7_lastUp 24 = .ok (.idiv, 1) := by decide +kernel
theorem dX7_lastUp_25 : decode cX7_lastUp 25 = .ok (.ireturn, 1) := by decide +kernel
theorem dX8_init_0 : decode cX8_init 0 = .ok (.aload_n 0, 1) := by decide +kernel
theorem dX8_init_1 : decode cX8_init 1 = .ok (.invokespecial 3, 3) := by decide +kernel
theorem dX8_init_4 : decode cX8_init 4 = .ok (.aload_n 0, 1) := by decide +kernel
theorem dX8_init_5 : decode cX8_init 5 = .ok (.bipush 100, 2) := by decide +kernel
theorem dX8_init_7 : decode cX8_init 7 = .ok (.newarray .byte, 2) := by decide +kernel
theorem dX8_init_9 : decode cX8_init 9 = .ok (.putfield 9, 3) := by decide +kernel
theorem dX8_init_12 : decode cX8_init 12 = .ok (.aload_n 0, 1) := by decide +kernel
theorem dX8_init_13 : decode cX8_init 13 = .ok (.iconst 0, 1) := by decide +kernel
theorem dX8_init_14 : decode cX8_init 14 = .ok (.putfield 15, 3) := by decide +kernel
theorem dX8_init_17 : decode cX8_init 17 = .ok (.aload_n 0, 1) := by decide +kernel
theorem dX8_init_18 : decode cX8_init 18 = .ok (.iconst 0, 1) := by decide +kernel
theorem dX8_init_19 : decode cX8_init 19 = .ok (.putfield 19, 3) := by decide +kernel
theorem dX8_init_22 : decode cX8_init 22 = .ok (.aload_n 0, 1) := by decide +kernel
theorem dX8_init_23 : decode cX8_init 23 = .ok (.iconst 0, 1) := by decide +kernel
theorem dX8_init_24 : decode cX8_init 24 = .ok (.putfield 22, 3) := by decide +kernel
theorem dX8_init_27 : decode cX8_init 27 = .ok (.return_, 1) := by decide +kernel
theorem dX8_take_0 : decode cX8_take 0 = .ok (.aload_n 0, 1) := by decide +kernel
theorem dX8_take_1 : decode cX8_take 1 = .ok (.getfield 15, 3) := by decide +kernel
theorem dX8_take_4 : decode cX8_take 4 = .ok (.ifCond .lt 32, 3) := by decide +kernel
theorem dX8_take_7 : decode cX8_take 7 = .ok (.aload_n 0, 1) := by decide +kernel
theorem dX8_take_8 : decode cX8_take 8 = .ok (.getfield 15, 3) := by decide +kernel
theorem dX8_take_11 : decode cX8_take 11 = .ok (.bipush 100, 2) := by decide +kernel
theorem dX8_take_13 : decode cX8_take 13 = .ok (.if_icmp .ge 23, 3) := by decide +kernel
theorem dX8_take_16 : decode cX8_take 16 = .ok (.aload_n 0, 1) := by decide +kernel
theorem dX8_take_17 : decode cX8_take 17 = .ok (.getfield 9, 3) := by decide +kernel
theorem dX8_take_20 : decode cX8_take 20 = .ok (.aload_n 0, 1) := by decide +kernel
theorem dX8_take_21 : decode cX8_take 21 = .ok (.getfield 15, 3) := by decide +kernel
theorem dX8_take_24 : decode cX8_take 24 = .ok (.iload_n 1, 1) := by decide +kernel
theorem dX8_take_25 : decode cX8_take 25 = .ok (.bastore, 1) := by decide +kernel
theorem dX8_take_26 : decode cX8_take 26 = .ok (.aload_n 0, 1) := by decide +kernel
theorem dX8_take_27 : decode cX8_take 27 = .ok (.dup, 1) := by decide +kernel
theorem dX8_take_28 : decode cX8_take 28 = .ok (.getfield 15, 3) := by decide +kernel
theorem dX8_take_31 : decode cX8_take 31 = .ok (.iconst 1, 1) := by decide +kernel
theorem dX8_take_32 : decode cX8_take 32 = .ok (.iadd, 1) := by decide +kernel
theorem dX8_take_33 : decode cX8_take 33 = .ok (.putfield 15, 3) := by decide +kernel
theorem dX8_take_36 : decode cX8_take 36 = .ok (.return_, 1) := by decide +kernel
theorem dX8_clear_0 : decode cX8_clear 0 = .ok (.aload_n 0, 1) := by decide +kernel
theorem dX8_clear_1 : decode cX8_clear 1 = .ok (.iconst 0, 1) := by decide +kernel
theorem dX8_clear_2 : decode cX8_clear 2 = .ok (.putfield 15, 3) := by decide +kernel
theorem dX8_clear_5 : decode cX8_clear 5 = .ok (.return_, 1) := by decide +kernel
theorem dX8_rewind_0 : decode cX8_rewind 0 = .ok (.aload_n 0, 1) := by decide +kernel
theorem dX8_rewind_1 : decode cX8_rewind 1 = .ok (.iconst 0, 1) := by decide +kernel
theorem dX8_rewind_2 : decode cX8_rewind 2 = .ok (.putfield 19, 3) := by decide +kernel
theorem dX8_rewind_5 : decode cX8_rewind 5 = .ok (.aload_n 0, 1) := by decide +kernel
theorem dX8_rewind_6 : decode cX8_rewind 6 = .ok (.iconst 0, 1) := by decide +kernel
theorem dX8_rewind_7 : decode cX8_rewind 7 = .ok (.putfield 22, 3) := by decide +kernel
theorem dX8_rewind_10 : decode cX8_rewind 10 = .ok (.return_, 1) := by decide +kernel
theorem dX8_nextSort_0 : decode cX8_nextSort 0 = .ok (.aload_n 0, 1) := by decide +kernel
theorem dX8_nextSort_1 : decode cX8_nextSort 1 = .ok (.aload_n 0, 1) := by decide +kernel
theorem dX8_nextSort_2 : decode cX8_nextSort 2 = .ok (.getfield 22, 3) := by decide +kernel
theorem dX8_nextSort_5 : decode cX8_nextSort 5 = .ok (.putfield 19, 3) := by decide +kernel
theorem dX8_nextSort_8 : decode cX8_nextSort 8 = .ok (.aload_n 0, 1) := by decide +kernel
theorem dX8_nextSort_9 : decode cX8_nextSort 9 = .ok (.getfield 19, 3) := by decide +kernel
theorem dX8_nextSort_12 : decode cX8_nextSort 12 = .ok (.aload_n 0, 1) := by decide +kernel
theorem dX8_nextSort_13 : decode cX8_nextSort 13 = .ok (.getfield 15, 3) := by decide +kernel
theorem dX8_nextSort_16 : decode cX8_nextSort 16 = .ok (.if_icmp .ge 28, 3) := by decide +kernel
theorem dX8_nextSort_19 : decode cX8_nextSort 19 = .ok (.aload_n 0, 1) := by decide +kernel
theorem dX8_nextSort_20 : decode cX8_nextSort 20 = .ok (.aload_n 0, 1) := by decide +kernel
theorem dX8_nextSort_21 : decode cX8_nextSort 21 = .ok (.getfield 19, 3) := by decide +kernel
theorem dX8_nextSort_24 : decode cX8_nextSort 24 = .ok (.invokevirtual 25, 3) := by decide +kernel
theorem dX8_nextSort_27 : decode cX8_nextSort 27 = .ok (.iconst 4, 1) := by decide +kernel
theorem dX8_nextSort_28 : decode cX8_nextSort 28 = .ok (.if_icmp .ne 16, 3) := by decide +kernel
theorem dX8_nextSort_31 : decode cX8_nextSort 31 = .ok (.aload_n 0, 1) := by decide +kernel
theorem dX8_nextSort_32 : decode cX8_nextSort 32 = .ok (.dup, 1) := by decide +kernel
theorem dX8_nextSort_33 : decode cX8_nextSort 33 = .ok (.getfield 19, 3) := by decide +kernel
theorem dX8_nextSort_36 : decode cX8_nextSort 36 = .ok (.iconst 1, 1) := by decide +kernel
theorem dX8_nextSort_37 : decode cX8_nextSort 37 = .ok (.iadd, 1) := by decide +kernel
theorem dX8_nextSort_38 : decode cX8_nextSort 38 = .ok (.putfield 19, 3) := by decide +kernel
theorem dX8_nextSort_41 : decode cX8_nextSort 41 = .ok (.goto (-33), 3) := by decide +kernel
theorem dX8_nextSort_44 : decode cX8_nextSort 44 = .ok (.aload_n 0, 1) := by decide +kernel
theorem dX8_nextSort_45 : decode cX8_nextSort 45 = .ok (.aload_n 0, 1) := by decide +kernel
theorem dX8_nextSort_46 : decode cX8_nextSort 46 = .ok (.getfield 19, 3) := by decide +kernel
theorem dX8_nextSort_49 : decode cX8_nextSort 49 = .ok (.invokevirtual 25, 3) := by decide +kernel
theorem dX8_nextSort_52 : decode cX8_nextSort 52 = .ok (.istore_n 1, 1) := by decide +kernel
theorem dX8_nextSort_53 : decode cX8_nextSort 53 = .ok (.aload_n 0, 1) := by decide +kernel
theorem dX8_nextSort_54 : decode cX8_nextSort 54 = .ok (.iload_n 1, 1) := by decide +kernel
theorem dX8_nextSort_55 : decode cX8_nextSort 55 = .ok (.ifCond .ne 10, 3) := by decide +kernel
theorem dX8_nextSort_58 : decode cX8_nextSort 58 = .ok (.aload_n 0, 1) := by decide +kernel
theorem dX8_nextSort_59 : decode cX8_nextSort 59 = .ok (.getfield 19, 3) := by decide +kernel
theorem dX8_nextSort_62 : decode cX8_nextSort 62 = .ok (.goto 9, 3) := by decide +kernel
theorem dX8_nextSort_65 : decode cX8_nextSort 65 = .ok (.aload_n 0, 1) := by decide +kernel
theorem dX8_nextSort_66 : decode cX8_nextSort 66 = .ok (.getfield 19, 3) := by decide +kernel
theorem dX8_nextSort_69 : decode cX8_nextSort 69 = .ok (.iconst 1, 1) := by decide +kernel
theorem dX8_nextSort_70 : decode cX8_nextSort 70 = .ok (.iadd, 1) := by decide +kernel
theorem dX8_nextSort_71 : decode cX8_nextSort 71 = .ok (.putfield 22, 3) := by decide +kernel
theorem dX8_nextSort_74 : decode cX8_nextSort 74 = .ok (.aload_n 0, 1) := by decide +kernel
theorem dX8_nextSort_75 : decode cX8_nextSort 75 = .ok (.getfield 22, 3) := by decide +kernel
theorem dX8_nextSort_78 : decode cX8_nextSort 78 = .ok (.aload_n 0, 1) := by decide +kernel
theorem dX8_nextSort_79 : decode cX8_nextSort 79 = .ok (.getfield 15, 3) := by decide +kernel
theorem dX8_nextSort_82 : decode cX8_nextSort 82 = .ok (.if_icmp .ge 38, 3) := by decide +kernel
theorem dX8_nextSort_85 : decode cX8_nextSort 85 = .ok (.iload_n 1, 1) := by decide +kernel
theorem dX8_nextSort_86 : decode cX8_nextSort 86 = .ok (.iconst 1, 1) := by decide +kernel
theorem dX8_nextSort_87 : decode cX8_nextSort 87 = .ok (.if_icmp .eq 8, 3) := by decide +kernel
theorem dX8_nextSort_90 : decode cX8_nextSort 90 = .ok (.iload_n 1, 1) := by decide +kernel
theorem dX8_nextSort_91 : decode cX8_nextSort 91 = .ok (.iconst 2, 1) := by decide +kernel
theorem dX8_nextSort_92 : decode cX8_nextSort 92 = .ok (.if_icmp .ne 28, 3) := by decide +kernel
theorem dX8_nextSort_95 : decode cX8_nextSort 95 = .ok (.aload_n 0, 1) := by decide +kernel
theorem dX8_nextSort_96 : decode cX8_nextSort 96 = .ok (.aload_n 0, 1) := by decide +kernel
theorem dX8_nextSort_97 : decode cX8_nextSort 97 = .ok (.getfield 22, 3) := by decide +kernel
theorem dX8_nextSort_100 : decode cX8_nextSort 100 = .ok (.invokevirtual 25, 3) := by decide +kernel
theorem dX8_nextSort_103 : decode cX8_nextSort 103 = .ok (.iload_n 1, 1) := by decide +kernel
theorem dX8_nextSort_104 : decode cX8_nextSort 104 = .ok (.if_icmp .ne 16, 3) := by decide +kernel
theorem dX8_nextSort_107 : decode cX8_nextSort 107 = .ok (.aload_n 0, 1) := by decide +kernel
theorem dX8_nextSort_108 : decode cX8_nextSort 108 = .ok (.dup, 1) := by decide +kernel
theorem dX8_nextSort_109 : decode cX8_nextSort 109 = .ok (.getfield 22, 3) := by decide +kernel
theorem dX8_nextSort_112 : decode cX8_nextSort 112 = .ok (.iconst 1, 1) := by decide +kernel
theorem dX8_nextSort_113 : decode cX8_nextSort 113 = .ok (.iadd, 1) := by decide +kernel
theorem dX8_nextSort_114 : decode cX8_nextSort 114 = .ok (.putfield 22, 3) := by decide +kernel
theorem dX8_nextSort_117 : decode cX8_nextSort 117 = .ok (.goto (-43), 3) := by decide +kernel
theorem dX8_nextSort_120 : decode cX8_nextSort 120 = .ok (.iload_n 1, 1) := by decide +kernel
theorem dX8_nextSort_121 : decode cX8_nextSort 121 = .ok (.ireturn, 1) := by decide +kernel
theorem dX8_sortAt_0 : decode cX8_sortAt 0 = .ok (.iload_n 1, 1) := by decide +kernel
theorem dX8_sortAt_1 : decode cX8_sortAt 1 = .ok (.aload_n 0, 1) := by decide +kernel
theorem dX8_sortAt_2 : decode cX8_sortAt 2 = .ok (.getfield 15, 3) := by decide +kernel
theorem dX8_sortAt_5 : decode cX8_sortAt 5 = .ok (.if_icmp .lt 5, 3) := by decide +kernel
theorem dX8_sortAt_8 : decode cX8_sortAt 8 = .ok (.iconst 0, 1) := by decide +kernel
theorem dX8_sortAt_9 : decode cX8_sortAt 9 = .ok (.ireturn, 1) := by decide +kernel
theorem dX8_sortAt_10 : decode cX8_sortAt 10 = .ok (.aload_n 0, 1) := by decide +kernel
theorem dX8_sortAt_11 : decode cX8_sortAt 11 = .ok (.iload_n 1, 1) := by decide +kernel
theorem dX8_sortAt_12 : decode cX8_sortAt 12 = .ok (.invokevirtual 29, 3) := by decide +kernel
theorem dX8_sortAt_15 : decode cX8_sortAt 15 = .ok (.istore_n 2, 1) := by decide +kernel
theorem dX8_sortAt_16 : decode cX8_sortAt 16 = .ok (.iload_n 2, 1) := by decide +kernel
theorem dX8_sortAt_17 : decode cX8_sortAt 17 = .ok (.bipush 32, 2) := by decide +kernel
theorem dX8_sortAt_19 : decode cX8_sortAt 19 = .ok (.if_icmp .ne 5, 3) := by decide +kernel
theorem dX8_sortAt_22 : decode cX8_sortAt 22 = .ok (.iconst 4, 1) := by decide +kernel
theorem dX8_sortAt_23 : decode cX8_sortAt 23 = .ok (.ireturn, 1) := by decide +kernel
theorem dX8_sortAt_24 : decode cX8_sortAt 24 = .ok (.iload_n 2, 1) := by decide +kernel
theorem dX8_sortAt_25 : decode cX8_sortAt 25 = .ok (.bipush 97, 2) := by decide +kernel
theorem dX8_sortAt_27 : decode cX8_sortAt 27 = .ok (.if_icmp .lt 11, 3) := by decide +kernel
theorem dX8_sortAt_30 : decode cX8_sortAt 30 = .ok (.iload_n 2, 1) := by decide +kernel
theorem dX8_sortAt_31 : decode cX8_sortAt 31 = .ok (.bipush 122, 2) := by decide +kernel
theorem dX8_sortAt_33 : decode cX8_sortAt 33 = .ok (.if_icmp .gt 5, 3) := by decide +kernel
theorem dX8_sortAt_36 : decode cX8_sortAt 36 = .ok (.iconst 1, 1) := by decide +kernel
theorem dX8_sortAt_37 : decode cX8_sortAt 37 = .ok (.ireturn, 1) := by decide +kernel
theorem dX8_sortAt_38 : decode cX8_sortAt 38 = .ok (.iload_n 2, 1) := by decide +kernel
theorem dX8_sortAt_39 : decode cX8_sortAt 39 = .ok (.bipush 48, 2) := by decide +kernel
theorem dX8_sortAt_41 : decode cX8_sortAt 41 = .ok (.if_icmp .lt 13, 3) := by decide +kernel
theorem dX8_sortAt_44 : decode cX8_sortAt 44 = .ok (.iload_n 2, 1) := by decide +kernel
theorem dX8_sortAt_45 : decode cX8_sortAt 45 = .ok (.bipush 57, 2) := by decide +kernel
theorem dX8_sortAt_47 : decode cX8_sortAt 47 = .ok (.if_icmp .gt 7, 3) := by decide +kernel
theorem dX8_sortAt_50 : decode cX8_sortAt 50 = .ok (.iconst 2, 1) := by decide +kernel
theorem dX8_sortAt_51 : decode cX8_sortAt 51 = .ok (.goto 4, 3) := by decide +kernel
theorem dX8_sortAt_54 : decode cX8_sortAt 54 = .ok (.iconst 3, 1) := by decide +kernel
theorem dX8_sortAt_55 : decode cX8_sortAt 55 = .ok (.ireturn, 1) := by decide +kernel
theorem dX8_byteAt_0 : decode cX8_byteAt 0 = .ok (.iload_n 1, 1) := by decide +kernel
theorem dX8_byteAt_1 : decode cX8_byteAt 1 = .ok (.ifCond .lt 26, 3) := by decide +kernel
theorem dX8_byteAt_4 : decode cX8_byteAt 4 = .ok (.iload_n 1, 1) := by decide +kernel
theorem dX8_byteAt_5 : decode cX8_byteAt 5 = .ok (.aload_n 0, 1) := by decide +kernel
theorem dX8_byteAt_6 : decode cX8_byteAt 6 = .ok (.getfield 15, 3) := by decide +kernel
theorem dX8_byteAt_9 : decode cX8_byteAt 9 = .ok (.if_icmp .ge 18, 3) := by decide +kernel
theorem dX8_byteAt_12 : decode cX8_byteAt 12 = .ok (.iload_n 1, 1) := by decide +kernel
theorem dX8_byteAt_13 : decode cX8_byteAt 13 = .ok (.bipush 100, 2) := by decide +kernel
theorem dX8_byteAt_15 : decode cX8_byteAt 15 = .ok (.if_icmp .ge 12, 3) := by decide +kernel
theorem dX8_byteAt_18 : decode cX8_byteAt 18 = .ok (.aload_n 0, 1) := by decide +kernel
theorem dX8_byteAt_19 : decode cX8_byteAt 19 = .ok (.getfield 9, 3) := by decide +kernel
theorem dX8_byteAt_22 : decode cX8_byteAt 22 = .ok (.iload_n 1, 1) := by decide +kernel
theorem dX8_byteAt_23 : decode cX8_byteAt 23 = .ok (.baload, 1) := by decide +kernel
theorem dX8_byteAt_24 : decode cX8_byteAt 24 = .ok (.goto 4, 3) := by decide +kernel
theorem dX8_byteAt_27 : decode cX8_byteAt 27 = .ok (.iconst (-1), 1) := by decide +kernel
theorem dX8_byteAt_28 : decode cX8_byteAt 28 = .ok (.ireturn, 1) := by decide +kernel
theorem dX8_spells_0 : decode cX8_spells 0 = .ok (.aload_n 1, 1) := by decide +kernel
theorem dX8_spells_1 : decode cX8_spells 1 = .ok (.ifnull 19, 3) := by decide +kernel
theorem dX8_spells_4 : decode cX8_spells 4 = .ok (.aload_n 0, 1) := by decide +kernel
theorem dX8_spells_5 : decode cX8_spells 5 = .ok (.getfield 22, 3) := by decide +kernel
theorem dX8_spells_8 : decode cX8_spells 8 = .ok (.aload_n 0, 1) := by decide +kernel
theorem dX8_spells_9 : decode cX8_spells 9 = .ok (.getfield 19, 3) := by decide +kernel
theorem dX8_spells_12 : decode cX8_spells 12 = .ok (.isub, 1) := by decide +kernel
theorem dX8_spells_13 : decode cX8_spells 13 = .ok (.aload_n 1, 1) := by decide +kernel
theorem dX8_spells_14 : decode cX8_spells 14 = .ok (.invokevirtual 32, 3) := by decide +kernel
theorem dX8_spells_17 : decode cX8_spells 17 = .ok (.if_icmp .eq 5, 3) := by decide +kernel
theorem dX8_spells_20 : decode cX8_spells 20 = .ok (.iconst 0, 1) := by decide +kernel
theorem dX8_spells_21 : decode cX8_spells 21 = .ok (.ireturn, 1) := by decide +kernel
theorem dX8_spells_22 : decode cX8_spells 22 = .ok (.iconst 0, 1) := by decide +kernel
theorem dX8_spells_23 : decode cX8_spells 23 = .ok (.istore_n 2, 1) := by decide +kernel
theorem dX8_spells_24 : decode cX8_spells 24 = .ok (.iload_n 2, 1) := by decide +kernel
theorem dX8_spells_25 : decode cX8_spells 25 = .ok (.aload_n 1, 1) := by decide +kernel
theorem dX8_spells_26 : decode cX8_spells 26 = .ok (.invokevirtual 32, 3) := by decide +kernel
theorem dX8_spells_29 : decode cX8_spells 29 = .ok (.if_icmp .ge 29, 3) := by decide +kernel
theorem dX8_spells_32 : decode cX8_spells 32 = .ok (.aload_n 0, 1) := by decide +kernel
theorem dX8_spells_33 : decode cX8_spells 33 = .ok (.aload_n 0, 1) := by decide +kernel
theorem dX8_spells_34 : decode cX8_spells 34 = .ok (.getfield 19, 3) := by decide +kernel
theorem dX8_spells_37 : decode cX8_spells 37 = .ok (.iload_n 2, 1) := by decide +kernel
theorem dX8_spells_38 : decode cX8_spells 38 = .ok (.iadd, 1) := by decide +kernel
theorem dX8_spells_39 : decode cX8_spells 39 = .ok (.invokevirtual 29, 3) := by decide +kernel
theorem dX8_spells_42 : decode cX8_spells 42 = .ok (.aload_n 1, 1) := by decide +kernel
theorem dX8_spells_43 : decode cX8_spells 43 = .ok (.iload_n 2, 1) := by decide +kernel
theorem dX8_spells_44 : decode cX8_spells 44 = .ok (.invokevirtual 38, 3) := by decide +kernel
theorem dX8_spells_47 : decode cX8_spells 47 = .ok (.if_icmp .eq 5, 3) := by decide +kernel
theorem dX8_spells_50 : decode cX8_spells 50 = .ok (.iconst 0, 1) := by decide +kernel
theorem dX8_spells_51 : decode cX8_spells 51 = .ok (.ireturn, 1) := by decide +kernel
theorem dX8_spells_52 : decode cX8_spells 52 = .ok (.iinc 2 1, 3) := by decide +kernel
theorem dX8_spells_55 : decode cX8_spells 55 = .ok (.goto (-31), 3) := by decide +kernel
theorem dX8_spells_58 : decode cX8_spells 58 = .ok (.iconst 1, 1) := by decide +kernel
theorem dX8_spells_59 : decode cX8_spells 59 = .ok (.ireturn, 1) := by decide +kernel
theorem dX8_number_0 : decode cX8_number 0 = .ok (.aload_n 0, 1) := by decide +kernel
theorem dX8_number_1 : decode cX8_number 1 = .ok (.getfield 22, 3) := by decide +kernel
theorem dX8_number_4 : decode cX8_number 4 = .ok (.aload_n 0, 1) := by decide +kernel
theorem dX8_number_5 : decode cX8_number 5 = .ok (.getfield 19, 3) := by decide +kernel
theorem dX8_number_8 : decode cX8_number 8 = .ok (.isub, 1) := by decide +kernel
theorem dX8_number_9 : decode cX8_number 9 = .ok (.iconst 2, 1) := by decide +kernel
theorem dX8_number_10 : decode cX8_number 10 = .ok (.if_icmp .le 5, 3) := by decide +kernel
theorem dX8_number_13 : decode cX8_number 13 = .ok (.iconst (-1), 1) := by decide +kernel
theorem dX8_number_14 : decode cX8_number 14 = .ok (.ireturn, 1) := by decide +kernel
theorem dX8_number_15 : decode cX8_number 15 = .ok (.iconst 0, 1) := by decide +kernel
theorem dX8_number_16 : decode cX8_number 16 = .ok (.istore_n 1, 1) := by decide +kernel
theorem dX8_number_17 : decode cX8_number 17 = .ok (.aload_n 0, 1) := by decide +kernel
theorem dX8_number_18 : decode cX8_number 18 = .ok (.getfield 19, 3) := by decide +kernel
theorem dX8_number_21 : decode cX8_number 21 = .ok (.istore_n 2, 1) := by decide +kernel
theorem dX8_number_22 : decode cX8_number 22 = .ok (.iload_n 2, 1) := by decide +kernel
theorem dX8_number_23 : decode cX8_number 23 = .ok (.aload_n 0, 1) := by decide +kernel
theorem dX8_number_24 : decode cX8_number 24 = .ok (.getfield 22, 3) := by decide +kernel
theorem dX8_number_27 : decode cX8_number 27 = .ok (.if_icmp .ge 23, 3) := by decide +kernel
theorem dX8_number_30 : decode cX8_number 30 = .ok (.bipush 10, 2) := by decide +kernel
theorem dX8_number_32 : decode cX8_number 32 = .ok (.iload_n 1, 1) := by decide +kernel
theorem dX8_number_33 : decode cX8_number 33 = .ok (.imul, 1) := by decide +kernel
theorem dX8_number_34 : decode cX8_number 34 = .ok (.aload_n 0, 1) := by decide +kernel
theorem dX8_number_35 : decode cX8_number 35 = .ok (.iload_n 2, 1) := by decide +kernel
theorem dX8_number_36 : decode cX8_number 36 = .ok (.invokevirtual 29, 3) := by decide +kernel
theorem dX8_number_39 : decode cX8_number 39 = .ok (.iadd, 1) := by decide +kernel
theorem dX8_number_40 : decode cX8_number 40 = .ok (.bipush 48, 2) := by decide +kernel
theorem dX8_number_42 : decode cX8_number 42 = .ok (.isub, 1) := by decide +kernel
theorem dX8_number_43 : decode cX8_number 43 = .ok (.istore_n 1, 1) := by decide +kernel
theorem dX8_number_44 : decode cX8_number 44 = .ok (.iinc 2 1, 3) := by decide +kernel
theorem dX8_number_47 : decode cX8_number 47 = .ok (.goto (-25), 3) := by decide +kernel
theorem dX8_number_50 : decode cX8_number 50 = .ok (.iload_n 1, 1) := by decide +kernel
theorem dX8_number_51 : decode cX8_number 51 = .ok (.ireturn, 1) := by decide +kernel
theorem dX9_init_0 : decode cX9_init 0 = .ok (.aload_n 0, 1) := by decide +kernel
theorem dX9_init_1 : decode cX9_init 1 = .ok (.invokespecial 3, 3) := by decide +kernel
theorem dX9_init_4 : decode cX9_init 4 = .ok (.aload_n 0, 1) := by decide +kernel
theorem dX9_init_5 : decode cX9_init 5 = .ok (.sipush 26047, 3) := by decide +kernel
theorem dX9_init_8 : decode cX9_init 8 = .ok (.newarray .long, 2) := by decide +kernel
theorem dX9_init_10 : decode cX9_init 10 = .ok (.putfield 11, 3) := by decide +kernel
theorem dX9_init_13 : decode cX9_init 13 = .ok (.aload_n 0, 1) := by decide +kernel
theorem dX9_init_14 : decode cX9_init 14 = .ok (.iconst (-1), 1) := by decide +kernel
theorem dX9_init_15 : decode cX9_init 15 = .ok (.putfield 15, 3) := by decide +kernel
theorem dX9_init_18 : decode cX9_init 18 = .ok (.aload_n 0, 1) := by decide +kernel
theorem dX9_init_19 : decode cX9_init 19 = .ok (.iconst (-1), 1) := by decide +kernel
theorem dX9_init_20 : decode cX9_init 20 = .ok (.putfield 19, 3) := by decide +kernel
theorem dX9_init_23 : decode cX9_init 23 = .ok (.return_, 1) := by decide +kernel
theorem dX9_forget_0 : decode cX9_forget 0 = .ok (.aload_n 0, 1) := by decide +kernel
theorem dX9_forget_1 : decode cX9_forget 1 = .ok (.iconst (-1), 1) := by decide +kernel
theorem dX9_forget_2 : decode cX9_forget 2 = .ok (.putfield 15, 3) := by decide +kernel
theorem dX9_forget_5 : decode cX9_forget 5 = .ok (.aload_n 0, 1) := by decide +kernel
theorem dX9_forget_6 : decode cX9_forget 6 = .ok (.iconst (-1), 1) := by decide +kernel
theorem dX9_forget_7 : decode cX9_forget 7 = .ok (.putfield 19, 3) := by decide +kernel
theorem dX9_forget_10 : decode cX9_forget 10 = .ok (.return_, 1) := by decide +kernel
theorem dX9_reach_0 : decode cX9_reach 0 = .ok (.iload_n 1, 1) := by decide +kernel
theorem dX9_reach_1 : decode cX9_reach 1 = .ok (.aload_n 0, 1) := by decide +kernel
theorem dX9_reach_2 : decode cX9_reach 2 = .ok (.getfield 15, 3) := by decide +kernel
theorem dX9_reach_5 : decode cX9_reach 5 = .ok (.if_icmp .gt 12, 3) := by decide +kernel
theorem dX9_reach_8 : decode cX9_reach 8 = .ok (.iload_n 2, 1) := by decide +kernel
theorem dX9_reach_9 : decode cX9_reach 9 = .ok (.aload_n 0, 1) := by decide +kernel
theorem dX9_reach_10 : decode cX9_reach 10 = .ok (.getfield 19, 3) := by decide +kernel
theorem dX9_reach_13 : decode cX9_reach 13 = .ok (.if_icmp .gt 4, 3) := by decide +kernel
theorem dX9_reach_16 : decode cX9_reach 16 = .ok (.return_, 1) := by decide +kernel
theorem dX9_reach_17 : decode cX9_reach 17 = .ok (.aload_n 0, 1) := by decide +kernel
theorem dX9_reach_18 : decode cX9_reach 18 = .ok (.iload_n 1, 1) := by decide +kernel
theorem dX9_reach_19 : decode cX9_reach 19 = .ok (.aload_n 0, 1) := by decide +kernel
theorem dX9_reach_20 : decode cX9_reach 20 = .ok (.getfield 15, 3) := by decide +kernel
theorem dX9_reach_23 : decode cX9_reach 23 = .ok (.invokestatic 22, 3) := by decide +kernel
theorem dX9_reach_26 : decode cX9_reach 26 = .ok (.bipush 60, 2) := by decide +kernel
theorem dX9_reach_28 : decode cX9_reach 28 = .ok (.invokestatic 28, 3) := by decide +kernel
theorem dX9_reach_31 : decode cX9_reach 31 = .ok (.putfield 15, 3) := by decide +kernel
theorem dX9_reach_34 : decode cX9_reach 34 = .ok (.aload_n 0, 1) := by decide +kernel
theorem dX9_reach_35 : decode cX9_reach 35 = .ok (.iload_n 2, 1) := by decide +kernel
theorem dX9_reach_36 : decode cX9_reach 36 = .ok (.aload_n 0, 1) := by decide +kernel
theorem dX9_reach_37 : decode cX9_reach 37 = .ok (.getfield 19, 3) := by decide +kernel
theorem dX9_reach_40 : decode cX9_reach 40 = .ok (.invokestatic 22, 3) := by decide +kernel
theorem dX9_reach_43 : decode cX9_reach 43 = .ok (.bipush 60, 2) := by decide +kernel
theorem dX9_reach_45 : decode cX9_reach 45 = .ok (.invokestatic 28, 3) := by decide +kernel
theorem dX9_reach_48 : decode cX9_reach 48 = .ok (.putfield 19, 3) := by decide +kernel
theorem dX9_reach_51 : decode cX9_reach 51 = .ok (.aload_n 3, 1) := by decide +kernel
theorem dX9_reach_52 : decode cX9_reach 52 = .ok (.getfield 31, 3) := by decide +kernel
theorem dX9_reach_55 : decode cX9_reach 55 = .ok (.istore 4, 2) := by decide +kernel
theorem dX9_reach_57 : decode cX9_reach 57 = .ok (.iload 4, 2) := by decide +kernel
theorem dX9_reach_59 : decode cX9_reach 59 = .ok (.ifCond .lt 66, 3) := by decide +kernel
theorem dX9_reach_62 : decode cX9_reach 62 = .ok (.iconst 0, 1) := by decide +kernel
theorem dX9_reach_63 : decode cX9_reach 63 = .ok (.istore 5, 2) := by decide +kernel
theorem dX9_reach_65 : decode cX9_reach 65 = .ok (.iload 5, 2) := by decide +kernel
theorem dX9_reach_67 : decode cX9_reach 67 = .ok (.aload_n 0, 1) := by decide +kernel
theorem dX9_reach_68 : decode cX9_reach 68 = .ok (.getfield 15, 3) := by decide +kernel
theorem dX9_reach_71 : decode cX9_reach 71 = .ok (.if_icmp .gt 48, 3) := by decide +kernel
theorem dX9_reach_74 : decode cX9_reach 74 = .ok (.iconst 0, 1) := by decide +kernel
theorem dX9_reach_75 : decode cX9_reach 75 = .ok (.istore 6, 2) := by decide +kernel
theorem dX9_reach_77 : decode cX9_reach 77 = .ok (.iload 6, 2) := by decide +kernel
theorem dX9_reach_79 : decode cX9_reach 79 = .ok (.aload_n 0, 1) := by decide +kernel
theorem dX9_reach_80 : decode cX9_reach 80 = .ok (.getfield 19, 3) := by decide +kernel
theorem dX9_reach_83 : decode cX9_reach 83 = .ok (.if_icmp .gt 30, 3) := by decide +kernel
theorem dX9_reach_86 : decode cX9_reach 86 = .ok (.aload_n 0, 1) := by decide +kernel
theorem dX9_reach_87 : decode cX9_reach 87 = .ok (.iload 4, 2) := by decide +kernel
theorem dX9_reach_89 : decode cX9_reach 89 = .ok (.iload 5, 2) := by decide +kernel
theorem dX9_reach_91 : decode cX9_reach 91 = .ok (.iload 6, 2) := by decide +kernel
theorem dX9_reach_93 : decode cX9_reach 93 = .ok (.aload_n 0, 1) := by decide +kernel
theorem dX9_reach_94 : decode cX9_reach 94 = .ok (.iload 4, 2) := by decide +kernel
theorem dX9_reach_96 : decode cX9_reach 96 = .ok (.iload 5, 2) := by decide +kernel
theorem dX9_reach_98 : decode cX9_reach 98 = .ok (.iload 6, 2) := by decide +kernel
theorem dX9_reach_100 : decode cX9_reach 100 = .ok (.aload_n 3, 1) := by decide +kernel
theorem dX9_reach_101 : decode cX9_reach 101 = .ok (.invokevirtual 36, 3) := by decide +kernel
theorem dX9_reach_104 : decode cX9_reach 104 = .ok (.invokevirtual 40, 3) := by decide +kernel
theorem dX9_reach_107 : decode cX9_reach 107 = .ok (.iinc 6 1, 3) := by decide +kernel
theorem dX9_reach_110 : decode cX9_reach 110 = .ok (.goto (-33), 3) := by decide +kernel
theorem dX9_reach_113 : decode cX9_reach 113 = .ok (.iinc 5 1, 3) := by decide +kernel
theorem dX9_reach_116 : decode cX9_reach 116 = .ok (.goto (-51), 3) := by decide +kernel
theorem dX9_reach_119 : decode cX9_reach 119 = .ok (.iinc 4 (-1), 3) := by decide +kernel
theorem dX9_reach_122 : decode cX9_reach 122 = .ok (.goto (-65), 3) := by decide +kernel
theorem dX9_reach_125 : decode cX9_reach 125 = .ok (.return_, 1) := by decide +kernel
theorem dX9_counted_0 : decode cX9_counted 0 = .ok (.aload 4, 2) := by decide +kernel
theorem dX9_counted_2 : decode cX9_counted 2 = .ok (.iload_n 1, 1) := by decide +kernel
theorem dX9_counted_3 : decode cX9_counted 3 = .ok (.invokevirtual 44, 3) := by decide +kernel
theorem dX9_counted_6 : decode cX9_counted 6 = .ok (.ifCond .ne 17, 3) := by decide +kernel
theorem dX9_counted_9 : decode cX9_counted 9 = .ok (.iload_n 2, 1) := by decide +kernel
theorem dX9_counted_10 : decode cX9_counted 10 = .ok (.ifCond .ne 11, 3) := by decide +kernel
theorem dX9_counted_13 : decode cX9_counted 13 = .ok (.iload_n 3, 1) := by decide +kernel
theorem dX9_counted_14 : decode cX9_counted 14 = .ok (.ifCond .ne 7, 3) := by decide +kernel
theorem dX9_counted_17 : decode cX9_counted 17 = .ok (.lconst 1, 1) := by decide +kernel
theorem dX9_counted_18 : decode cX9_counted 18 = .ok (.goto 4, 3) := by decide +kernel
theorem dX9_counted_21 : decode cX9_counted 21 = .ok (.lconst 0, 1) := by decide +kernel
theorem dX9_counted_22 : decode cX9_counted 22 = .ok (.lreturn, 1) := by decide +kernel
theorem dX9_counted_23 : decode cX9_counted 23 = .ok (.aload 4, 2) := by decide +kernel
theorem dX9_counted_25 : decode cX9_counted 25 = .ok (.getfield 48, 3) := by decide +kernel
theorem dX9_counted_28 : decode cX9_counted 28 = .ok (.iload_n 1, 1) := by decide +kernel
theorem dX9_counted_29 : decode cX9_counted 29 = .ok (.iaload, 1) := by decide +kernel
theorem dX9_counted_30 : decode cX9_counted 30 = .ok (.istore 5, 2) := by decide +kernel
theorem dX9_counted_32 : decode cX9_counted 32 = .ok (.aload 4, 2) := by decide +kernel
theorem dX9_counted_34 : decode cX9_counted 34 = .ok (.getfield 52, 3) := by decide +kernel
theorem dX9_counted_37 : decode cX9_counted 37 = .ok (.iload_n 1, 1) := by decide +kernel
theorem dX9_counted_38 : decode cX9_counted 38 = .ok (.iaload, 1) := by decide +kernel
theorem dX9_counted_39 : decode cX9_counted 39 = .ok (.istore 6, 2) := by decide +kernel
theorem dX9_counted_41 : decode cX9_counted 41 = .ok (.aload 4, 2) := by decide +kernel
theorem dX9_counted_43 : decode cX9_counted 43 = .ok (.getfield 55, 3) := by decide +kernel
theorem dX9_counted_46 : decode cX9_counted 46 = .ok (.iload_n 1, 1) := by decide +kernel
theorem dX9_counted_47 : decode cX9_counted 47 = .ok (.laload, 1) := by decide +kernel
theorem dX9_counted_48 : decode cX9_counted 48 = .ok (.ldc2_w 58, 3) := by decide +kernel
theorem dX9_counted_51 : decode cX9_counted 51 = .ok (.lcmp, 1) := by decide +kernel
theorem dX9_counted_52 : decode cX9_counted 52 = .ok (.ifCond .ne 27, 3) := by decide +kernel
theorem dX9_counted_55 : decode cX9_counted 55 = .ok (.aload_n 0, 1) := by decide +kernel
theorem dX9_counted_56 : decode cX9_counted 56 = .ok (.iload_n 1, 1) := by decide +kernel
theorem dX9_counted_57 : decode cX9_counted 57 = .ok (.iconst 1, 1) := by decide +kernel
theorem dX9_counted_58 : decode cX9_counted 58 = .ok (.iadd, 1) := by decide +kernel
theorem dX9_counted_59 : decode cX9_counted 59 = .ok (.iload_n 2, 1) := by decide +kernel
theorem dX9_counted_60 : decode cX9_counted 60 = .ok (.iload_n 3, 1) := by decide +kernel
theorem dX9_counted_61 : decode cX9_counted 61 = .ok (.invokevirtual 60, 3) := by decide +kernel
theorem dX9_counted_64 : decode cX9_counted 64 = .ok (.aload_n 0, 1) := by decide +kernel
theorem dX9_counted_65 : decode cX9_counted 65 = .ok (.iload_n 1, 1) := by decide +kernel
theorem dX9_counted_66 : decode cX9_counted 66 = .ok (.iload_n 2, 1) := by decide +kernel
theorem dX9_counted_67 : decode cX9_counted 67 = .ok (.iload 5, 2) := by decide +kernel
theorem dX9_counted_69 : decode cX9_counted 69 = .ok (.isub, 1) := by decide +kernel
theorem dX9_counted_70 : decode cX9_counted 70 = .ok (.iload_n 3, 1) := by decide +kernel
theorem dX9_counted_71 : decode cX9_counted 71 = .ok (.iload 6, 2) := by decide +kernel
theorem dX9_counted_73 : decode cX9_counted 73 = .ok (.isub, 1) := by decide +kernel
theorem dX9_counted_74 : decode cX9_counted 74 = .ok (.invokevirtual 60, 3) := by decide +kernel
theorem dX9_counted_77 : decode cX9_counted 77 = .ok (.ladd, 1) := by decide +kernel
theorem dX9_counted_78 : decode cX9_counted 78 = .ok (.lreturn, 1) := by decide +kernel
theorem dX9_counted_79 : decode cX9_counted 79 = .ok (.lconst 0, 1) := by decide +kernel
theorem dX9_counted_80 : decode cX9_counted 80 = .ok (.lstore 7, 2) := by decide +kernel
theorem dX9_counted_82 : decode cX9_counted 82 = .ok (.iload_n 2, 1) := by decide +kernel
theorem dX9_counted_83 : decode cX9_counted 83 = .ok (.istore 9, 2) := by decide +kernel
theorem dX9_counted_85 : decode cX9_counted 85 = .ok (.iload_n 3, 1) := by decide +kernel
theorem dX9_counted_86 : decode cX9_counted 86 = .ok (.istore 10, 2) := by decide +kernel
theorem dX9_counted_88 : decode cX9_counted 88 = .ok (.iconst 0, 1) := by decide +kernel
theorem dX9_counted_89 : decode cX9_counted 89 = .ok (.istore 11, 2) := by decide +kernel
theorem dX9_counted_91 : decode cX9_counted 91 = .ok (.iload 11, 2) := by decide +kernel
theorem dX9_counted_93 : decode cX9_counted 93 = .ok (.bipush 60, 2) := by decide +kernel
theorem dX9_counted_95 : decode cX9_counted 95 = .ok (.if_icmp .gt 64, 3) := by decide +kernel
theorem dX9_counted_98 : decode cX9_counted 98 = .ok (.iload 9, 2) := by decide +kernel
theorem dX9_counted_100 : decode cX9_counted 100 = .ok (.ifCond .lt 59, 3) := by decide +kernel
theorem dX9_counted_103 : decode cX9_counted 103 = .ok (.iload 10, 2) := by decide +kernel
theorem dX9_counted_105 : decode cX9_counted 105 = .ok (.ifCond .lt 54, 3) := by decide +kernel
theorem dX9_counted_108 : decode cX9_counted 108 = .ok (.lload 7, 2) := by decide +kernel
theorem dX9_counted_110 : decode cX9_counted 110 = .ok (.aload 4, 2) := by decide +kernel
theorem dX9_counted_112 : decode cX9_counted 112 = .ok (.iload_n 1, 1) := by decide +kernel
theorem dX9_counted_113 : decode cX9_counted 113 = .ok (.iload 11, 2) := by decide +kernel
theorem dX9_counted_115 : decode cX9_counted 115 = .ok (.invokevirtual 64, 3) := by decide +kernel
theorem dX9_counted_118 : decode cX9_counted 118 = .ok (.ifCond .eq 17, 3) := by decide +kernel
theorem dX9_counted_121 : decode cX9_counted 121 = .ok (.aload_n 0, 1) := by decide +kernel
theorem dX9_counted_122 : decode cX9_counted 122 = .ok (.iload_n 1, 1) := by decide +kernel
theorem dX9_counted_123 : decode cX9_counted 123 = .ok (.iconst 1, 1) := by decide +kernel
theorem dX9_counted_124 : decode cX9_counted 124 = .ok (.iadd, 1) := by decide +kernel
theorem dX9_counted_125 : decode cX9_counted 125 = .ok (.iload 9, 2) := by decide +kernel
theorem dX9_counted_127 : decode cX9_counted 127 = .ok (.iload 10, 2) := by decide +kernel
theorem dX9_counted_129 : decode cX9_counted 129 = .ok (.invokevirtual 60, 3) := by decide +kernel
theorem dX9_counted_132 : decode cX9_counted 132 = .ok (.goto 4, 3) := by decide +kernel
theorem dX9_counted_135 : decode cX9_counted 135 = .ok (.lconst 0, 1) := by decide +kernel
theorem dX9_counted_136 : decode cX9_counted 136 = .ok (.ladd, 1) := by decide +kernel
theorem dX9_counted_137 : decode cX9_counted 137 = .ok (.lstore 7, 2) := by decide +kernel
theorem dX9_counted_139 : decode cX9_counted 139 = .ok (.iload 9, 2) := by decide +kernel
theorem dX9_counted_141 : decode cX9_counted 141 = .ok (.iload 5, 2) := by decide +kernel
theorem dX9_counted_143 : decode cX9_counted 143 = .ok (.isub, 1) := by decide +kernel
theorem dX9_counted_144 : decode cX9_counted 144 = .ok (.istore 9, 2) := by decide +kernel
theorem dX9_counted_146 : decode cX9_counted 146 = .ok (.iload 10, 2) := by decide +kernel
theorem dX9_counted_148 : decode cX9_counted 148 = .ok (.iload 6, 2) := by decide +kernel
theorem dX9_counted_150 : decode cX9_counted 150 = .ok (.isub, 1) := by decide +kernel
theorem dX9_counted_151 : decode cX9_counted 151 = .ok (.istore 10, 2) := by decide +kernel
theorem dX9_counted_153 : decode cX9_counted 153 = .ok (.iinc 11 1, 3) := by decide +kernel
theorem dX9_counted_156 : decode cX9_counted 156 = .ok (.goto (-65), 3) := by decide +kernel
theorem dX9_counted_159 : decode cX9_counted 159 = .ok (.lload 7, 2) := by decide +kernel
theorem dX9_counted_161 : decode cX9_counted 161 = .ok (.lreturn, 1) := by decide +kernel
theorem dX9_set_0 : decode cX9_set 0 = .ok (.iload_n 1, 1) := by decide +kernel
theorem dX9_set_1 : decode cX9_set 1 = .ok (.ifCond .lt 47, 3) := by decide +kernel
theorem dX9_set_4 : decode cX9_set 4 = .ok (.iload_n 1, 1) := by decide +kernel
theorem dX9_set_5 : decode cX9_set 5 = .ok (.bipush 7, 2) := by decide +kernel
theorem dX9_set_7 : decode cX9_set 7 = .ok (.if_icmp .ge 41, 3) := by decide +kernel
theorem dX9_set_10 : decode cX9_set 10 = .ok (.iload_n 2, 1) := by decide +kernel
theorem dX9_set_11 : decode cX9_set 11 = .ok (.ifCond .lt 37, 3) := by decide +kernel
theorem dX9_set_14 : decode cX9_set 14 = .ok (.iload_n 2, 1) := by decide +kernel
theorem dX9_set_15 : decode cX9_set 15 = .ok (.bipush 61, 2) := by decide +kernel
theorem dX9_set_17 : decode cX9_set 17 = .ok (.if_icmp .ge 31, 3) := by decide +kernel
theorem dX9_set_20 : decode cX9_set 20 = .ok (.iload_n 3, 1) := by decide +kernel
theorem dX9_set_21 : decode cX9_set 21 = .ok (.ifCond .lt 27, 3) := by decide +kernel
theorem dX9_set_24 : decode cX9_set 24 = .ok (.iload_n 3, 1) := by decide +kernel
theorem dX9_set_25 : decode cX9_set 25 = .ok (.bipush 61, 2) := by decide +kernel
theorem dX9_set_27 : decode cX9_set 27 = .ok (.if_icmp .ge 21, 3) := by decide +kernel
theorem dX9_set_30 : decode cX9_set 30 = .ok (.aload_n 0, 1) := by decide +kernel
theorem dX9_set_31 : decode cX9_set 31 = .ok (.getfield 11, 3) := by decide +kernel
theorem dX9_set_34 : decode cX9_set 34 = .ok (.iload_n 1, 1) := by decide +kernel
theorem dX9_set_35 : decode cX9_set 35 = .ok (.bipush 61, 2) := by decide +kernel
theorem dX9_set_37 : decode cX9_set 37 = .ok (.imul, 1) := by decide +kernel
theorem dX9_set_38 : decode cX9_set 38 = .ok (.iload_n 2, 1) := by decide +kernel
theorem dX9_set_39 : decode cX9_set 39 = .ok (.iadd, 1) := by decide +kernel
theorem dX9_set_40 : decode cX9_set 40 = .ok (.bipush 61, 2) := by decide +kernel
theorem dX9_set_42 : decode cX9_set 42 = .ok (.imul, 1) := by decide +kernel
theorem dX9_set_43 : decode cX9_set 43 = .ok (.iload_n 3, 1) := by decide +kernel
theorem dX9_set_44 : decode cX9_set 44 = .ok (.iadd, 1) := by decide +kernel
theorem dX9_set_45 : decode cX9_set 45 = .ok (.lload 4, 2) := by decide +kernel
theorem dX9_set_47 : decode cX9_set 47 = .ok (.lastore, 1) := by decide +kernel
theorem dX9_set_48 : decode cX9_set 48 = .ok (.return_, 1) := by decide +kernel
theorem dX9_at_0 : decode cX9_at 0 = .ok (.iload_n 1, 1) := by decide +kernel
theorem dX9_at_1 : decode cX9_at 1 = .ok (.ifCond .lt 49, 3) := by decide +kernel
theorem dX9_at_4 : decode cX9_at 4 = .ok (.iload_n 1, 1) := by decide +kernel
theorem dX9_at_5 : decode cX9_at 5 = .ok (.bipush 7, 2) := by decide +kernel
theorem dX9_at_7 : decode cX9_at 7 = .ok (.if_icmp .ge 43, 3) := by decide +kernel
theorem dX9_at_10 : decode cX9_at 10 = .ok (.iload_n 2, 1) := by decide +kernel
theorem dX9_at_11 : decode cX9_at 11 = .ok (.ifCond .lt 39, 3) := by decide +kernel
theorem dX9_at_14 : decode cX9_at 14 = .ok (.iload_n 2, 1) := by decide +kernel
theorem dX9_at_15 : decode cX9_at 15 = .ok (.aload_n 0, 1) := by decide +kernel
theorem dX9_at_16 : decode cX9_at 16 = .ok (.getfield 15, 3) := by decide +kernel
theorem dX9_at_19 : decode cX9_at 19 = .ok (.if_icmp .gt 31, 3) := by decide +kernel
theorem dX9_at_22 : decode cX9_at 22 = .ok (.iload_n 2, 1) := by decide +kernel
theorem dX9_at_23 : decode cX9_at 23 = .ok (.bipush 61, 2) := by decide +kernel
theorem dX9_at_25 : decode cX9_at 25 = .ok (.if_icmp .ge 25, 3) := by decide +kernel
theorem dX9_at_28 : decode cX9_at 28 = .ok (.iload_n 3, 1) := by decide +kernel
theorem dX9_at_29 : decode cX9_at 29 = .ok (.ifCond .lt 21, 3) := by decide +kernel
theorem dX9_at_32 : decode cX9_at 32 = .ok (.iload_n 3, 1) := by decide +kernel
theorem dX9_at_33 : decode cX9_at 33 = .ok (.aload_n 0, 1) := by decide +kernel
theorem dX9_at_34 : decode cX9_at 34 = .ok (.getfield 19, 3) := by decide +kernel
theorem dX9_at_37 : decode cX9_at 37 = .ok (.if_icmp .gt 13, 3) := by decide +kernel
theorem dX9_at_40 : decode cX9_at 40 = .ok (.iload_n 3, 1) := by decide +kernel
theorem dX9_at_41 : decode cX9_at 41 = .ok (.bipush 61, 2) := by decide +kernel
theorem dX9_at_43 : decode cX9_at 43 = .ok (.if_icmp .ge 7, 3) := by decide +kernel
theorem dX9_at_46 : decode cX9_at 46 = .ok (.iconst 1, 1) := by decide +kernel
theorem dX9_at_47 : decode cX9_at 47 = .ok (.goto 4, 3) := by decide +kernel
theorem dX9_at_50 : decode cX9_at 50 = .ok (.iconst 0, 1) := by decide +kernel
theorem dX9_at_51 : decode cX9_at 51 = .ok (.istore 4, 2) := by decide +kernel
theorem dX9_at_53 : decode cX9_at 53 = .ok (.iload 4, 2) := by decide +kernel
theorem dX9_at_55 : decode cX9_at 55 = .ok (.ifCond .eq 22, 3) := by decide +kernel
theorem dX9_at_58 : decode cX9_at 58 = .ok (.aload_n 0, 1) := by decide +kernel
theorem dX9_at_59 : decode cX9_at 59 = .ok (.getfield 11, 3) := by decide +kernel
theorem dX9_at_62 : decode cX9_at 62 = .ok (.iload_n 1, 1) := by decide +kernel
theorem dX9_at_63 : decode cX9_at 63 = .ok (.bipush 61, 2) := by decide +kernel
theorem dX9_at_65 : decode cX9_at 65 = .ok (.imul, 1) := by decide +kernel
theorem dX9_at_66 : decode cX9_at 66 = .ok (.iload_n 2, 1) := by decide +kernel
theorem dX9_at_67 : decode cX9_at 67 = .ok (.iadd, 1) := by decide +kernel
theorem dX9_at_68 : decode cX9_at 68 = .ok (.bipush 61, 2) := by decide +kernel
theorem dX9_at_70 : decode cX9_at 70 = .ok (.imul, 1) := by decide +kernel
theorem dX9_at_71 : decode cX9_at 71 = .ok (.iload_n 3, 1) := by decide +kernel
theorem dX9_at_72 : decode cX9_at 72 = .ok (.iadd, 1) := by decide +kernel
theorem dX9_at_73 : decode cX9_at 73 = .ok (.laload, 1) := by decide +kernel
theorem dX9_at_74 : decode cX9_at 74 = .ok (.goto 4, 3) := by decide +kernel
theorem dX9_at_77 : decode cX9_at 77 = .ok (.lconst 0, 1) := by decide +kernel
theorem dX9_at_78 : decode cX9_at 78 = .ok (.lreturn, 1) := by decide +kernel
theorem dX9_taken_0 : decode cX9_taken 0 = .ok (.iload_n 3, 1) := by decide +kernel
theorem dX9_taken_1 : decode cX9_taken 1 = .ok (.i2l, 1) := by decide +kernel
theorem dX9_taken_2 : decode cX9_taken 2 = .ok (.lstore 6, 2) := by decide +kernel
theorem dX9_taken_4 : decode cX9_taken 4 = .ok (.iload_n 1, 1) := by decide +kernel
theorem dX9_taken_5 : decode cX9_taken 5 = .ok (.istore 8, 2) := by decide +kernel
theorem dX9_taken_7 : decode cX9_taken 7 = .ok (.iload_n 2, 1) := by decide +kernel
theorem dX9_taken_8 : decode cX9_taken 8 = .ok (.istore 9, 2) := by decide +kernel
theorem dX9_taken_10 : decode cX9_taken 10 = .ok (.iconst 0, 1) := by decide +kernel
theorem dX9_taken_11 : decode cX9_taken 11 = .ok (.istore 10, 2) := by decide +kernel
theorem dX9_taken_13 : decode cX9_taken 13 = .ok (.iload 10, 2) := by decide +kernel
theorem dX9_taken_15 : decode cX9_taken 15 = .ok (.iload 4, 2) := by decide +kernel
theorem dX9_taken_17 : decode cX9_taken 17 = .ok (.if_icmp .gt 116, 3) := by decide +kernel
theorem dX9_taken_20 : decode cX9_taken 20 = .ok (.aload 5, 2) := by decide +kernel
theorem dX9_taken_22 : decode cX9_taken 22 = .ok (.iload 10, 2) := by decide +kernel
theorem dX9_taken_24 : decode cX9_taken 24 = .ok (.invokevirtual 44, 3) := by decide +kernel
theorem dX9_taken_27 : decode cX9_taken 27 = .ok (.ifCond .eq 106, 3) := by decide +kernel
theorem dX9_taken_30 : decode cX9_taken 30 = .ok (.iconst 0, 1) := by decide +kernel
end
section
theorem dX9_taken_31 : decode cX9_taken 31 = .ok (.istore 11, 2) := by decide +kernel
theorem dX9_taken_33 : decode cX9_taken 33 = .ok (.iload 11, 2) := by decide +kernel
theorem dX9_taken_35 : decode cX9_taken 35 = .ok (.bipush 60, 2) := by decide +kernel
theorem dX9_taken_37 : decode cX9_taken 37 = .ok (.if_icmp .ge 48, 3) := by decide +kernel
theorem dX9_taken_40 : decode cX9_taken 40 = .ok (.lload 6, 2) := by decide +kernel
theorem dX9_taken_42 : decode cX9_taken 42 = .ok (.aload_n 0, 1) := by decide +kernel
theorem dX9_taken_43 : decode cX9_taken 43 = .ok (.iload 10, 2) := by decide +kernel
theorem dX9_taken_45 : decode cX9_taken 45 = .ok (.iload 11, 2) := by decide +kernel
theorem dX9_taken_47 : decode cX9_taken 47 = .ok (.iload 8, 2) := by decide +kernel
theorem dX9_taken_49 : decode cX9_taken 49 = .ok (.iload 9, 2) := by decide +kernel
theorem dX9_taken_51 : decode cX9_taken 51 = .ok (.aload 5, 2) := by decide +kernel
theorem dX9_taken_53 : decode cX9_taken 53 = .ok (.invokevirtual 68, 3) := by decide +kernel
theorem dX9_taken_56 : decode cX9_taken 56 = .ok (.lcmp, 1) := by decide +kernel
theorem dX9_taken_57 : decode cX9_taken 57 = .ok (.ifCond .lt 28, 3) := by decide +kernel
theorem dX9_taken_60 : decode cX9_taken 60 = .ok (.lload 6, 2) := by decide +kernel
theorem dX9_taken_62 : decode cX9_taken 62 = .ok (.aload_n 0, 1) := by decide +kernel
theorem dX9_taken_63 : decode cX9_taken 63 = .ok (.iload 10, 2) := by decide +kernel
theorem dX9_taken_65 : decode cX9_taken 65 = .ok (.iload 11, 2) := by decide +kernel
theorem dX9_taken_67 : decode cX9_taken 67 = .ok (.iload 8, 2) := by decide +kernel
theorem dX9_taken_69 : decode cX9_taken 69 = .ok (.iload 9, 2) := by decide +kernel
theorem dX9_taken_71 : decode cX9_taken 71 = .ok (.aload 5, 2) := by decide +kernel
theorem dX9_taken_73 : decode cX9_taken 73 = .ok (.invokevirtual 68, 3) := by decide +kernel
theorem dX9_taken_76 : decode cX9_taken 76 = .ok (.lsub, 1) := by decide +kernel
theorem dX9_taken_77 : decode cX9_taken 77 = .ok (.lstore 6, 2) := by decide +kernel
theorem dX9_taken_79 : decode cX9_taken 79 = .ok (.iinc 11 1, 3) := by decide +kernel
theorem dX9_taken_82 : decode cX9_taken 82 = .ok (.goto (-49), 3) := by decide +kernel
theorem dX9_taken_85 : decode cX9_taken 85 = .ok (.iload 10, 2) := by decide +kernel
theorem dX9_taken_87 : decode cX9_taken 87 = .ok (.iload 4, 2) := by decide +kernel
theorem dX9_taken_89 : decode cX9_taken 89 = .ok (.if_icmp .ne 6, 3) := by decide +kernel
theorem dX9_taken_92 : decode cX9_taken 92 = .ok (.iload 11, 2) := by decide +kernel
theorem dX9_taken_94 : decode cX9_taken 94 = .ok (.ireturn, 1) := by decide +kernel
theorem dX9_taken_95 : decode cX9_taken 95 = .ok (.iload 8, 2) := by decide +kernel
theorem dX9_taken_97 : decode cX9_taken 97 = .ok (.iload 11, 2) := by decide +kernel
theorem dX9_taken_99 : decode cX9_taken 99 = .ok (.aload 5, 2) := by decide +kernel
theorem dX9_taken_101 : decode cX9_taken 101 = .ok (.getfield 48, 3) := by decide +kernel
theorem dX9_taken_104 : decode cX9_taken 104 = .ok (.iload 10, 2) := by decide +kernel
theorem dX9_taken_106 : decode cX9_taken 106 = .ok (.iaload, 1) := by decide +kernel
theorem dX9_taken_107 : decode cX9_taken 107 = .ok (.imul, 1) := by decide +kernel
theorem dX9_taken_108 : decode cX9_taken 108 = .ok (.isub, 1) := by decide +kernel
theorem dX9_taken_109 : decode cX9_taken 109 = .ok (.istore 8, 2) := by decide +kernel
theorem dX9_taken_111 : decode cX9_taken 111 = .ok (.iload 9, 2) := by decide +kernel
theorem dX9_taken_113 : decode cX9_taken 113 = .ok (.iload 11, 2) := by decide +kernel
theorem dX9_taken_115 : decode cX9_taken 115 = .ok (.aload 5, 2) := by decide +kernel
theorem dX9_taken_117 : decode cX9_taken 117 = .ok (.getfield 52, 3) := by decide +kernel
theorem dX9_taken_120 : decode cX9_taken 120 = .ok (.iload 10, 2) := by decide +kernel
theorem dX9_taken_122 : decode cX9_taken 122 = .ok (.iaload, 1) := by decide +kernel
theorem dX9_taken_123 : decode cX9_taken 123 = .ok (.imul, 1) := by decide +kernel
theorem dX9_taken_124 : decode cX9_taken 124 = .ok (.isub, 1) := by decide +kernel
theorem dX9_taken_125 : decode cX9_taken 125 = .ok (.istore 9, 2) := by decide +kernel
theorem dX9_taken_127 : decode cX9_taken 127 = .ok (.iinc 10 1, 3) := by decide +kernel
theorem dX9_taken_130 : decode cX9_taken 130 = .ok (.goto (-117), 3) := by decide +kernel
theorem dX9_taken_133 : decode cX9_taken 133 = .ok (.bipush (-3), 2) := by decide +kernel
theorem dX9_taken_135 : decode cX9_taken 135 = .ok (.ireturn, 1) := by decide +kernel
theorem dX9_through_0 : decode cX9_through 0 = .ok (.aload 5, 2) := by decide +kernel
theorem dX9_through_2 : decode cX9_through 2 = .ok (.iload_n 1, 1) := by decide +kernel
theorem dX9_through_3 : decode cX9_through 3 = .ok (.iload_n 2, 1) := by decide +kernel
theorem dX9_through_4 : decode cX9_through 4 = .ok (.invokevirtual 64, 3) := by decide +kernel
theorem dX9_through_7 : decode cX9_through 7 = .ok (.ifCond .ne 5, 3) := by decide +kernel
theorem dX9_through_10 : decode cX9_through 10 = .ok (.lconst 0, 1) := by decide +kernel
theorem dX9_through_11 : decode cX9_through 11 = .ok (.lreturn, 1) := by decide +kernel
theorem dX9_through_12 : decode cX9_through 12 = .ok (.aload_n 0, 1) := by decide +kernel
theorem dX9_through_13 : decode cX9_through 13 = .ok (.iload_n 1, 1) := by decide +kernel
theorem dX9_through_14 : decode cX9_through 14 = .ok (.iconst 1, 1) := by decide +kernel
theorem dX9_through_15 : decode cX9_through 15 = .ok (.iadd, 1) := by decide +kernel
theorem dX9_through_16 : decode cX9_through 16 = .ok (.iload_n 3, 1) := by decide +kernel
theorem dX9_through_17 : decode cX9_through 17 = .ok (.iload_n 2, 1) := by decide +kernel
theorem dX9_through_18 : decode cX9_through 18 = .ok (.aload 5, 2) := by decide +kernel
theorem dX9_through_20 : decode cX9_through 20 = .ok (.getfield 48, 3) := by decide +kernel
theorem dX9_through_23 : decode cX9_through 23 = .ok (.iload_n 1, 1) := by decide +kernel
theorem dX9_through_24 : decode cX9_through 24 = .ok (.iaload, 1) := by decide +kernel
theorem dX9_through_25 : decode cX9_through 25 = .ok (.imul, 1) := by decide +kernel
theorem dX9_through_26 : decode cX9_through 26 = .ok (.isub, 1) := by decide +kernel
theorem dX9_through_27 : decode cX9_through 27 = .ok (.iload 4, 2) := by decide +kernel
theorem dX9_through_29 : decode cX9_through 29 = .ok (.iload_n 2, 1) := by decide +kernel
theorem dX9_through_30 : decode cX9_through 30 = .ok (.aload 5, 2) := by decide +kernel
theorem dX9_through_32 : decode cX9_through 32 = .ok (.getfield 52, 3) := by decide +kernel
theorem dX9_through_35 : decode cX9_through 35 = .ok (.iload_n 1, 1) := by decide +kernel
theorem dX9_through_36 : decode cX9_through 36 = .ok (.iaload, 1) := by decide +kernel
theorem dX9_through_37 : decode cX9_through 37 = .ok (.imul, 1) := by decide +kernel
theorem dX9_through_38 : decode cX9_through 38 = .ok (.isub, 1) := by decide +kernel
theorem dX9_through_39 : decode cX9_through 39 = .ok (.invokevirtual 60, 3) := by decide +kernel
theorem dX9_through_42 : decode cX9_through 42 = .ok (.lreturn, 1) := by decide +kernel
theorem dX10_init_0 : decode cX10_init 0 = .ok (.aload_n 0, 1) := by decide +kernel
theorem dX10_init_1 : decode cX10_init 1 = .ok (.invokespecial 5, 3) := by decide +kernel
theorem dX10_init_4 : decode cX10_init 4 = .ok (.aload_n 0, 1) := by decide +kernel
theorem dX10_init_5 : decode cX10_init 5 = .ok (.new 11, 3) := by decide +kernel
theorem dX10_init_8 : decode cX10_init 8 = .ok (.dup, 1) := by decide +kernel
theorem dX10_init_9 : decode cX10_init 9 = .ok (.invokespecial 13, 3) := by decide +kernel
theorem dX10_init_12 : decode cX10_init 12 = .ok (.putfield 14, 3) := by decide +kernel
theorem dX10_init_15 : decode cX10_init 15 = .ok (.aload_n 0, 1) := by decide +kernel
theorem dX10_init_16 : decode cX10_init 16 = .ok (.new 11, 3) := by decide +kernel
theorem dX10_init_19 : decode cX10_init 19 = .ok (.dup, 1) := by decide +kernel
theorem dX10_init_20 : decode cX10_init 20 = .ok (.invokespecial 13, 3) := by decide +kernel
theorem dX10_init_23 : decode cX10_init 23 = .ok (.putfield 18, 3) := by decide +kernel
theorem dX10_init_26 : decode cX10_init 26 = .ok (.aload_n 0, 1) := by decide +kernel
theorem dX10_init_27 : decode cX10_init 27 = .ok (.new 21, 3) := by decide +kernel
theorem dX10_init_30 : decode cX10_init 30 = .ok (.dup, 1) := by decide +kernel
theorem dX10_init_31 : decode cX10_init 31 = .ok (.invokespecial 23, 3) := by decide +kernel
theorem dX10_init_34 : decode cX10_init 34 = .ok (.putfield 24, 3) := by decide +kernel
theorem dX10_init_37 : decode cX10_init 37 = .ok (.aload_n 0, 1) := by decide +kernel
theorem dX10_init_38 : decode cX10_init 38 = .ok (.new 28, 3) := by decide +kernel
theorem dX10_init_41 : decode cX10_init 41 = .ok (.dup, 1) := by decide +kernel
theorem dX10_init_42 : decode cX10_init 42 = .ok (.invokespecial 30, 3) := by decide +kernel
theorem dX10_init_45 : decode cX10_init 45 = .ok (.putfield 31, 3) := by decide +kernel
theorem dX10_init_48 : decode cX10_init 48 = .ok (.aload_n 0, 1) := by decide +kernel
theorem dX10_init_49 : decode cX10_init 49 = .ok (.new 35, 3) := by decide +kernel
theorem dX10_init_52 : decode cX10_init 52 = .ok (.dup, 1) := by decide +kernel
theorem dX10_init_53 : decode cX10_init 53 = .ok (.invokespecial 37, 3) := by decide +kernel
theorem dX10_init_56 : decode cX10_init 56 = .ok (.putfield 38, 3) := by decide +kernel
theorem dX10_init_59 : decode cX10_init 59 = .ok (.aload_n 0, 1) := by decide +kernel
theorem dX10_init_60 : decode cX10_init 60 = .ok (.new 42, 3) := by decide +kernel
theorem dX10_init_63 : decode cX10_init 63 = .ok (.dup, 1) := by decide +kernel
theorem dX10_init_64 : decode cX10_init 64 = .ok (.invokespecial 44, 3) := by decide +kernel
theorem dX10_init_67 : decode cX10_init 67 = .ok (.putfield 45, 3) := by decide +kernel
theorem dX10_init_70 : decode cX10_init 70 = .ok (.aload_n 0, 1) := by decide +kernel
theorem dX10_init_71 : decode cX10_init 71 = .ok (.new 49, 3) := by decide +kernel
theorem dX10_init_74 : decode cX10_init 74 = .ok (.dup, 1) := by decide +kernel
theorem dX10_init_75 : decode cX10_init 75 = .ok (.invokespecial 51, 3) := by decide +kernel
theorem dX10_init_78 : decode cX10_init 78 = .ok (.putfield 52, 3) := by decide +kernel
theorem dX10_init_81 : decode cX10_init 81 = .ok (.aload_n 0, 1) := by decide +kernel
theorem dX10_init_82 : decode cX10_init 82 = .ok (.new 56, 3) := by decide +kernel
theorem dX10_init_85 : decode cX10_init 85 = .ok (.dup, 1) := by decide +kernel
theorem dX10_init_86 : decode cX10_init 86 = .ok (.invokespecial 58, 3) := by decide +kernel
theorem dX10_init_89 : decode cX10_init 89 = .ok (.putfield 59, 3) := by decide +kernel
theorem dX10_init_92 : decode cX10_init 92 = .ok (.aload_n 0, 1) := by decide +kernel
theorem dX10_init_93 : decode cX10_init 93 = .ok (.new 63, 3) := by decide +kernel
theorem dX10_init_96 : decode cX10_init 96 = .ok (.dup, 1) := by decide +kernel
theorem dX10_init_97 : decode cX10_init 97 = .ok (.invokespecial 65, 3) := by decide +kernel
theorem dX10_init_100 : decode cX10_init 100 = .ok (.putfield 66, 3) := by decide +kernel
theorem dX10_init_103 : decode cX10_init 103 = .ok (.aload_n 0, 1) := by decide +kernel
theorem dX10_init_104 : decode cX10_init 104 = .ok (.new 70, 3) := by decide +kernel
theorem dX10_init_107 : decode cX10_init 107 = .ok (.dup, 1) := by decide +kernel
theorem dX10_init_108 : decode cX10_init 108 = .ok (.invokespecial 72, 3) := by decide +kernel
theorem dX10_init_111 : decode cX10_init 111 = .ok (.putfield 73, 3) := by decide +kernel
theorem dX10_init_114 : decode cX10_init 114 = .ok (.aload_n 0, 1) := by decide +kernel
theorem dX10_init_115 : decode cX10_init 115 = .ok (.iconst 4, 1) := by decide +kernel
theorem dX10_init_116 : decode cX10_init 116 = .ok (.anewarray 77, 3) := by decide +kernel
theorem dX10_init_119 : decode cX10_init 119 = .ok (.putfield 79, 3) := by decide +kernel
theorem dX10_init_122 : decode cX10_init 122 = .ok (.aload_n 0, 1) := by decide +kernel
theorem dX10_init_123 : decode cX10_init 123 = .ok (.iconst 0, 1) := by decide +kernel
theorem dX10_init_124 : decode cX10_init 124 = .ok (.putfield 83, 3) := by decide +kernel
theorem dX10_init_127 : decode cX10_init 127 = .ok (.aload_n 0, 1) := by decide +kernel
theorem dX10_init_128 : decode cX10_init 128 = .ok (.iconst 1, 1) := by decide +kernel
theorem dX10_init_129 : decode cX10_init 129 = .ok (.putfield 87, 3) := by decide +kernel
theorem dX10_init_132 : decode cX10_init 132 = .ok (.aload_n 0, 1) := by decide +kernel
theorem dX10_init_133 : decode cX10_init 133 = .ok (.iconst 1, 1) := by decide +kernel
theorem dX10_init_134 : decode cX10_init 134 = .ok (.putfield 91, 3) := by decide +kernel
theorem dX10_init_137 : decode cX10_init 137 = .ok (.iconst 0, 1) := by decide +kernel
theorem dX10_init_138 : decode cX10_init 138 = .ok (.istore_n 1, 1) := by decide +kernel
theorem dX10_init_139 : decode cX10_init 139 = .ok (.iload_n 1, 1) := by decide +kernel
theorem dX10_init_140 : decode cX10_init 140 = .ok (.iconst 4, 1) := by decide +kernel
theorem dX10_init_141 : decode cX10_init 141 = .ok (.if_icmp .ge 22, 3) := by decide +kernel
theorem dX10_init_144 : decode cX10_init 144 = .ok (.aload_n 0, 1) := by decide +kernel
theorem dX10_init_145 : decode cX10_init 145 = .ok (.getfield 79, 3) := by decide +kernel
theorem dX10_init_148 : decode cX10_init 148 = .ok (.iload_n 1, 1) := by decide +kernel
theorem dX10_init_149 : decode cX10_init 149 = .ok (.new 77, 3) := by decide +kernel
theorem dX10_init_152 : decode cX10_init 152 = .ok (.dup, 1) := by decide +kernel
theorem dX10_init_153 : decode cX10_init 153 = .ok (.invokespecial 94, 3) := by decide +kernel
theorem dX10_init_156 : decode cX10_init 156 = .ok (.aastore, 1) := by decide +kernel
theorem dX10_init_157 : decode cX10_init 157 = .ok (.iinc 1 1, 3) := by decide +kernel
theorem dX10_init_160 : decode cX10_init 160 = .ok (.goto (-21), 3) := by decide +kernel
theorem dX10_init_163 : decode cX10_init 163 = .ok (.return_, 1) := by decide +kernel
theorem dX10_part_0 : decode cX10_part 0 = .ok (.iload_n 1, 1) := by decide +kernel
theorem dX10_part_1 : decode cX10_part 1 = .ok (.iload_n 2, 1) := by decide +kernel
theorem dX10_part_2 : decode cX10_part 2 = .ok (.invokestatic 95, 3) := by decide +kernel
theorem dX10_part_5 : decode cX10_part 5 = .ok (.ifCond .ne 5, 3) := by decide +kernel
theorem dX10_part_8 : decode cX10_part 8 = .ok (.iconst (-1), 1) := by decide +kernel
theorem dX10_part_9 : decode cX10_part 9 = .ok (.ireturn, 1) := by decide +kernel
theorem dX10_part_10 : decode cX10_part 10 = .ok (.aload_n 0, 1) := by decide +kernel
theorem dX10_part_11 : decode cX10_part 11 = .ok (.iload_n 1, 1) := by decide +kernel
theorem dX10_part_12 : decode cX10_part 12 = .ok (.iload_n 2, 1) := by decide +kernel
theorem dX10_part_13 : decode cX10_part 13 = .ok (.invokevirtual 99, 3) := by decide +kernel
theorem dX10_part_16 : decode cX10_part 16 = .ok (.ireturn, 1) := by decide +kernel
theorem dX10_arc_0 : decode cX10_arc 0 = .ok (.iload_n 1, 1) := by decide +kernel
theorem dX10_arc_1 : decode cX10_arc 1 = .ok (.ifCond .lt 13, 3) := by decide +kernel
theorem dX10_arc_4 : decode cX10_arc 4 = .ok (.iload_n 2, 1) := by decide +kernel
theorem dX10_arc_5 : decode cX10_arc 5 = .ok (.iconst 2, 1) := by decide +kernel
theorem dX10_arc_6 : decode cX10_arc 6 = .ok (.if_icmp .gt 8, 3) := by decide +kernel
theorem dX10_arc_9 : decode cX10_arc 9 = .ok (.iload_n 1, 1) := by decide +kernel
theorem dX10_arc_10 : decode cX10_arc 10 = .ok (.iload_n 2, 1) := by decide +kernel
theorem dX10_arc_11 : decode cX10_arc 11 = .ok (.if_icmp .lt 5, 3) := by decide +kernel
theorem dX10_arc_14 : decode cX10_arc 14 = .ok (.iconst (-1), 1) := by decide +kernel
theorem dX10_arc_15 : decode cX10_arc 15 = .ok (.ireturn, 1) := by decide +kernel
theorem dX10_arc_16 : decode cX10_arc 16 = .ok (.aload_n 0, 1) := by decide +kernel
theorem dX10_arc_17 : decode cX10_arc 17 = .ok (.iload_n 1, 1) := by decide +kernel
theorem dX10_arc_18 : decode cX10_arc 18 = .ok (.ifCond .ne 7, 3) := by decide +kernel
theorem dX10_arc_21 : decode cX10_arc 21 = .ok (.iconst 1, 1) := by decide +kernel
theorem dX10_arc_22 : decode cX10_arc 22 = .ok (.goto 4, 3) := by decide +kernel
theorem dX10_arc_25 : decode cX10_arc 25 = .ok (.iconst 0, 1) := by decide +kernel
theorem dX10_arc_26 : decode cX10_arc 26 = .ok (.iload_n 2, 1) := by decide +kernel
theorem dX10_arc_27 : decode cX10_arc 27 = .ok (.iconst 2, 1) := by decide +kernel
theorem dX10_arc_28 : decode cX10_arc 28 = .ok (.if_icmp .ne 7, 3) := by decide +kernel
theorem dX10_arc_31 : decode cX10_arc 31 = .ok (.iconst 1, 1) := by decide +kernel
theorem dX10_arc_32 : decode cX10_arc 32 = .ok (.goto 4, 3) := by decide +kernel
theorem dX10_arc_35 : decode cX10_arc 35 = .ok (.iconst 0, 1) := by decide +kernel
theorem dX10_arc_36 : decode cX10_arc 36 = .ok (.invokevirtual 99, 3) := by decide +kernel
theorem dX10_arc_39 : decode cX10_arc 39 = .ok (.ireturn, 1) := by decide +kernel
theorem dX10_drop_0 : decode cX10_drop 0 = .ok (.aload_n 0, 1) := by decide +kernel
theorem dX10_drop_1 : decode cX10_drop 1 = .ok (.getfield 14, 3) := by decide +kernel
theorem dX10_drop_4 : decode cX10_drop 4 = .ok (.getfield 103, 3) := by decide +kernel
theorem dX10_drop_7 : decode cX10_drop 7 = .ok (.iconst 1, 1) := by decide +kernel
theorem dX10_drop_8 : decode cX10_drop 8 = .ok (.if_icmp .ge 6, 3) := by decide +kernel
theorem dX10_drop_11 : decode cX10_drop 11 = .ok (.bipush (-3), 2) := by decide +kernel
theorem dX10_drop_13 : decode cX10_drop 13 = .ok (.ireturn, 1) := by decide +kernel
theorem dX10_drop_14 : decode cX10_drop 14 = .ok (.aload_n 0, 1) := by decide +kernel
theorem dX10_drop_15 : decode cX10_drop 15 = .ok (.getfield 24, 3) := by decide +kernel
theorem dX10_drop_18 : decode cX10_drop 18 = .ok (.aload_n 0, 1) := by decide +kernel
theorem dX10_drop_19 : decode cX10_drop 19 = .ok (.getfield 14, 3) := by decide +kernel
theorem dX10_drop_22 : decode cX10_drop 22 = .ok (.invokevirtual 106, 3) := by decide +kernel
theorem dX10_drop_25 : decode cX10_drop 25 = .ok (.aload_n 0, 1) := by decide +kernel
theorem dX10_drop_26 : decode cX10_drop 26 = .ok (.getfield 14, 3) := by decide +kernel
theorem dX10_drop_29 : decode cX10_drop 29 = .ok (.dup, 1) := by decide +kernel
theorem dX10_drop_30 : decode cX10_drop 30 = .ok (.getfield 103, 3) := by decide +kernel
theorem dX10_drop_33 : decode cX10_drop 33 = .ok (.iconst 1, 1) := by decide +kernel
theorem dX10_drop_34 : decode cX10_drop 34 = .ok (.isub, 1) := by decide +kernel
theorem dX10_drop_35 : decode cX10_drop 35 = .ok (.putfield 103, 3) := by decide +kernel
theorem dX10_drop_38 : decode cX10_drop 38 = .ok (.aload_n 0, 1) := by decide +kernel
theorem dX10_drop_39 : decode cX10_drop 39 = .ok (.invokevirtual 110, 3) := by decide +kernel
theorem dX10_drop_42 : decode cX10_drop 42 = .ok (.aload_n 0, 1) := by decide +kernel
theorem dX10_drop_43 : decode cX10_drop 43 = .ok (.getfield 14, 3) := by decide +kernel
theorem dX10_drop_46 : decode cX10_drop 46 = .ok (.getfield 103, 3) := by decide +kernel
theorem dX10_drop_49 : decode cX10_drop 49 = .ok (.ireturn, 1) := by decide +kernel
theorem dX10_weigh_0 : decode cX10_weigh 0 = .ok (.aload_n 0, 1) := by decide +kernel
theorem dX10_weigh_1 : decode cX10_weigh 1 = .ok (.getfield 14, 3) := by decide +kernel
theorem dX10_weigh_4 : decode cX10_weigh 4 = .ok (.iload_n 1, 1) := by decide +kernel
theorem dX10_weigh_5 : decode cX10_weigh 5 = .ok (.invokevirtual 113, 3) := by decide +kernel
theorem dX10_weigh_8 : decode cX10_weigh 8 = .ok (.ifCond .eq 14, 3) := by decide +kernel
theorem dX10_weigh_11 : decode cX10_weigh 11 = .ok (.iload_n 2, 1) := by decide +kernel
theorem dX10_weigh_12 : decode cX10_weigh 12 = .ok (.iconst 1, 1) := by decide +kernel
theorem dX10_weigh_13 : decode cX10_weigh 13 = .ok (.if_icmp .lt 9, 3) := by decide +kernel
theorem dX10_weigh_16 : decode cX10_weigh 16 = .ok (.iload_n 2, 1) := by decide +kernel
theorem dX10_weigh_17 : decode cX10_weigh 17 = .ok (.bipush 99, 2) := by decide +kernel
theorem dX10_weigh_19 : decode cX10_weigh 19 = .ok (.if_icmp .le 5, 3) := by decide +kernel
theorem dX10_weigh_22 : decode cX10_weigh 22 = .ok (.iconst (-1), 1) := by decide +kernel
theorem dX10_weigh_23 : decode cX10_weigh 23 = .ok (.ireturn, 1) := by decide +kernel
theorem dX10_weigh_24 : decode cX10_weigh 24 = .ok (.aload_n 0, 1) := by decide +kernel
theorem dX10_weigh_25 : decode cX10_weigh 25 = .ok (.getfield 24, 3) := by decide +kernel
theorem dX10_weigh_28 : decode cX10_weigh 28 = .ok (.aload_n 0, 1) := by decide +kernel
theorem dX10_weigh_29 : decode cX10_weigh 29 = .ok (.getfield 14, 3) := by decide +kernel
theorem dX10_weigh_32 : decode cX10_weigh 32 = .ok (.invokevirtual 106, 3) := by decide +kernel
theorem dX10_weigh_35 : decode cX10_weigh 35 = .ok (.aload_n 0, 1) := by decide +kernel
theorem dX10_weigh_36 : decode cX10_weigh 36 = .ok (.getfield 14, 3) := by decide +kernel
theorem dX10_weigh_39 : decode cX10_weigh 39 = .ok (.getfield 117, 3) := by decide +kernel
theorem dX10_weigh_42 : decode cX10_weigh 42 = .ok (.iload_n 1, 1) := by decide +kernel
theorem dX10_weigh_43 : decode cX10_weigh 43 = .ok (.iaload, 1) := by decide +kernel
theorem dX10_weigh_44 : decode cX10_weigh 44 = .ok (.istore_n 3, 1) := by decide +kernel
theorem dX10_weigh_45 : decode cX10_weigh 45 = .ok (.aload_n 0, 1) := by decide +kernel
theorem dX10_weigh_46 : decode cX10_weigh 46 = .ok (.getfield 14, 3) := by decide +kernel
theorem dX10_weigh_49 : decode cX10_weigh 49 = .ok (.getfield 117, 3) := by decide +kernel
theorem dX10_weigh_52 : decode cX10_weigh 52 = .ok (.iload_n 1, 1) := by decide +kernel
theorem dX10_weigh_53 : decode cX10_weigh 53 = .ok (.iload_n 2, 1) := by decide +kernel
theorem dX10_weigh_54 : decode cX10_weigh 54 = .ok (.iastore, 1) := by decide +kernel
theorem dX10_weigh_55 : decode cX10_weigh 55 = .ok (.iload_n 3, 1) := by decide +kernel
theorem dX10_weigh_56 : decode cX10_weigh 56 = .ok (.ireturn, 1) := by decide +kernel
theorem dX10_partOf_0 : decode cX10_partOf 0 = .ok (.aload_n 0, 1) := by decide +kernel
theorem dX10_partOf_1 : decode cX10_partOf 1 = .ok (.getfield 14, 3) := by decide +kernel
theorem dX10_partOf_4 : decode cX10_partOf 4 = .ok (.iload_n 1, 1) := by decide +kernel
theorem dX10_partOf_5 : decode cX10_partOf 5 = .ok (.invokevirtual 113, 3) := by decide +kernel
theorem dX10_partOf_8 : decode cX10_partOf 8 = .ok (.ifCond .ne 5, 3) := by decide +kernel
theorem dX10_partOf_11 : decode cX10_partOf 11 = .ok (.iconst (-1), 1) := by decide +kernel
theorem dX10_partOf_12 : decode cX10_partOf 12 = .ok (.ireturn, 1) := by decide +kernel
theorem dX10_partOf_13 : decode cX10_partOf 13 = .ok (.iload_n 2, 1) := by decide +kernel
theorem dX10_partOf_14 : decode cX10_partOf 14 = .ok (.tableswitch 87 0 4 #[34, 44, 54, 64, 74], 34) := by decide +kernel
theorem dX10_partOf_48 : decode cX10_partOf 48 = .ok (.aload_n 0, 1) := by decide +kernel
theorem dX10_partOf_49 : decode cX10_partOf 49 = .ok (.getfield 14, 3) := by decide +kernel
theorem dX10_partOf_52 : decode cX10_partOf 52 = .ok (.getfield 121, 3) := by decide +kernel
theorem dX10_partOf_55 : decode cX10_partOf 55 = .ok (.iload_n 1, 1) := by decide +kernel
theorem dX10_partOf_56 : decode cX10_partOf 56 = .ok (.iaload, 1) := by decide +kernel
theorem dX10_partOf_57 : decode cX10_partOf 57 = .ok (.ireturn, 1) := by decide +kernel
theorem dX10_partOf_58 : decode cX10_partOf 58 = .ok (.aload_n 0, 1) := by decide +kernel
theorem dX10_partOf_59 : decode cX10_partOf 59 = .ok (.getfield 14, 3) := by decide +kernel
theorem dX10_partOf_62 : decode cX10_partOf 62 = .ok (.getfield 124, 3) := by decide +kernel
theorem dX10_partOf_65 : decode cX10_partOf 65 = .ok (.iload_n 1, 1) := by decide +kernel
theorem dX10_partOf_66 : decode cX10_partOf 66 = .ok (.iaload, 1) := by decide +kernel
theorem dX10_partOf_67 : decode cX10_partOf 67 = .ok (.ireturn, 1) := by decide +kernel
theorem dX10_partOf_68 : decode cX10_partOf 68 = .ok (.aload_n 0, 1) := by decide +kernel
theorem dX10_partOf_69 : decode cX10_partOf 69 = .ok (.getfield 14, 3) := by decide +kernel
theorem dX10_partOf_72 : decode cX10_partOf 72 = .ok (.getfield 117, 3) := by decide +kernel
theorem dX10_partOf_75 : decode cX10_partOf 75 = .ok (.iload_n 1, 1) := by decide +kernel
theorem dX10_partOf_76 : decode cX10_partOf 76 = .ok (.iaload, 1) := by decide +kernel
theorem dX10_partOf_77 : decode cX10_partOf 77 = .ok (.ireturn, 1) := by decide +kernel
theorem dX10_partOf_78 : decode cX10_partOf 78 = .ok (.aload_n 0, 1) := by decide +kernel
theorem dX10_partOf_79 : decode cX10_partOf 79 = .ok (.getfield 45, 3) := by decide +kernel
theorem dX10_partOf_82 : decode cX10_partOf 82 = .ok (.getfield 127, 3) := by decide +kernel
theorem dX10_partOf_85 : decode cX10_partOf 85 = .ok (.iload_n 1, 1) := by decide +kernel
theorem dX10_partOf_86 : decode cX10_partOf 86 = .ok (.iaload, 1) := by decide +kernel
theorem dX10_partOf_87 : decode cX10_partOf 87 = .ok (.ireturn, 1) := by decide +kernel
theorem dX10_partOf_88 : decode cX10_partOf 88 = .ok (.aload_n 0, 1) := by decide +kernel
theorem dX10_partOf_89 : decode cX10_partOf 89 = .ok (.getfield 14, 3) := by decide +kernel
theorem dX10_partOf_92 : decode cX10_partOf 92 = .ok (.getfield 130, 3) := by decide +kernel
theorem dX10_partOf_95 : decode cX10_partOf 95 = .ok (.iload_n 1, 1) := by decide +kernel
theorem dX10_partOf_96 : decode cX10_partOf 96 = .ok (.laload, 1) := by decide +kernel
theorem dX10_partOf_97 : decode cX10_partOf 97 = .ok (.invokestatic 134, 3) := by decide +kernel
theorem dX10_partOf_100 : decode cX10_partOf 100 = .ok (.ireturn, 1) := by decide +kernel
theorem dX10_partOf_101 : decode cX10_partOf 101 = .ok (.iconst (-1), 1) := by decide +kernel
theorem dX10_partOf_102 : decode cX10_partOf 102 = .ok (.ireturn, 1) := by decide +kernel
theorem dX10_feed_0 : decode cX10_feed 0 = .ok (.iload_n 3, 1) := by decide +kernel
theorem dX10_feed_1 : decode cX10_feed 1 = .ok (.iconst 1, 1) := by decide +kernel
theorem dX10_feed_2 : decode cX10_feed 2 = .ok (.if_icmp .lt 9, 3) := by decide +kernel
theorem dX10_feed_5 : decode cX10_feed 5 = .ok (.iload_n 3, 1) := by decide +kernel
theorem dX10_feed_6 : decode cX10_feed 6 = .ok (.bipush 8, 2) := by decide +kernel
theorem dX10_feed_8 : decode cX10_feed 8 = .ok (.if_icmp .le 5, 3) := by decide +kernel
theorem dX10_feed_11 : decode cX10_feed 11 = .ok (.iconst (-1), 1) := by decide +kernel
theorem dX10_feed_12 : decode cX10_feed 12 = .ok (.ireturn, 1) := by decide +kernel
theorem dX10_feed_13 : decode cX10_feed 13 = .ok (.iload_n 3, 1) := by decide +kernel
theorem dX10_feed_14 : decode cX10_feed 14 = .ok (.bipush 100, 2) := by decide +kernel
theorem dX10_feed_16 : decode cX10_feed 16 = .ok (.aload_n 0, 1) := by decide +kernel
theorem dX10_feed_17 : decode cX10_feed 17 = .ok (.getfield 31, 3) := by decide +kernel
theorem dX10_feed_20 : decode cX10_feed 20 = .ok (.getfield 138, 3) := by decide +kernel
theorem dX10_feed_23 : decode cX10_feed 23 = .ok (.isub, 1) := by decide +kernel
theorem dX10_feed_24 : decode cX10_feed 24 = .ok (.if_icmp .le 6, 3) := by decide +kernel
theorem dX10_feed_27 : decode cX10_feed 27 = .ok (.bipush (-2), 2) := by decide +kernel
theorem dX10_feed_29 : decode cX10_feed 29 = .ok (.ireturn, 1) := by decide +kernel
theorem dX10_feed_30 : decode cX10_feed 30 = .ok (.iconst 0, 1) := by decide +kernel
theorem dX10_feed_31 : decode cX10_feed 31 = .ok (.istore 4, 2) := by decide +kernel
theorem dX10_feed_33 : decode cX10_feed 33 = .ok (.iload 4, 2) := by decide +kernel
theorem dX10_feed_35 : decode cX10_feed 35 = .ok (.iload_n 3, 1) := by decide +kernel
theorem dX10_feed_36 : decode cX10_feed 36 = .ok (.if_icmp .ge 25, 3) := by decide +kernel
theorem dX10_feed_39 : decode cX10_feed 39 = .ok (.aload_n 0, 1) := by decide +kernel
theorem dX10_feed_40 : decode cX10_feed 40 = .ok (.getfield 31, 3) := by decide +kernel
theorem dX10_feed_43 : decode cX10_feed 43 = .ok (.lload_n 1, 1) := by decide +kernel
theorem dX10_feed_44 : decode cX10_feed 44 = .ok (.bipush 8, 2) := by decide +kernel
theorem dX10_feed_46 : decode cX10_feed 46 = .ok (.iload 4, 2) := by decide +kernel
theorem dX10_feed_48 : decode cX10_feed 48 = .ok (.imul, 1) := by decide +kernel
theorem dX10_feed_49 : decode cX10_feed 49 = .ok (.lushr, 1) := by decide +kernel
theorem dX10_feed_50 : decode cX10_feed 50 = .ok (.l2i, 1) := by decide +kernel
theorem dX10_feed_51 : decode cX10_feed 51 = .ok (.i2b, 1) := by decide +kernel
theorem dX10_feed_52 : decode cX10_feed 52 = .ok (.invokevirtual 139, 3) := by decide +kernel
theorem dX10_feed_55 : decode cX10_feed 55 = .ok (.iinc 4 1, 3) := by decide +kernel
theorem dX10_feed_58 : decode cX10_feed 58 = .ok (.goto (-25), 3) := by decide +kernel
theorem dX10_feed_61 : decode cX10_feed 61 = .ok (.aload_n 0, 1) := by decide +kernel
theorem dX10_feed_62 : decode cX10_feed 62 = .ok (.getfield 31, 3) := by decide +kernel
theorem dX10_feed_65 : decode cX10_feed 65 = .ok (.getfield 138, 3) := by decide +kernel
theorem dX10_feed_68 : decode cX10_feed 68 = .ok (.ireturn, 1) := by decide +kernel
theorem dX10_rule_0 : decode cX10_rule 0 = .ok (.aload_n 0, 1) := by decide +kernel
theorem dX10_rule_1 : decode cX10_rule 1 = .ok (.getfield 14, 3) := by decide +kernel
theorem dX10_rule_4 : decode cX10_rule 4 = .ok (.iload_n 1, 1) := by decide +kernel
theorem dX10_rule_5 : decode cX10_rule 5 = .ok (.invokevirtual 113, 3) := by decide +kernel
theorem dX10_rule_8 : decode cX10_rule 8 = .ok (.ifCond .ne 5, 3) := by decide +kernel
theorem dX10_rule_11 : decode cX10_rule 11 = .ok (.iconst (-1), 1) := by decide +kernel
theorem dX10_rule_12 : decode cX10_rule 12 = .ok (.ireturn, 1) := by decide +kernel
theorem dX10_rule_13 : decode cX10_rule 13 = .ok (.aload_n 0, 1) := by decide +kernel
theorem dX10_rule_14 : decode cX10_rule 14 = .ok (.getfield 38, 3) := by decide +kernel
theorem dX10_rule_17 : decode cX10_rule 17 = .ok (.aload_n 0, 1) := by decide +kernel
theorem dX10_rule_18 : decode cX10_rule 18 = .ok (.getfield 31, 3) := by decide +kernel
theorem dX10_rule_21 : decode cX10_rule 21 = .ok (.invokevirtual 143, 3) := by decide +kernel
theorem dX10_rule_24 : decode cX10_rule 24 = .ok (.istore_n 2, 1) := by decide +kernel
theorem dX10_rule_25 : decode cX10_rule 25 = .ok (.aload_n 0, 1) := by decide +kernel
theorem dX10_rule_26 : decode cX10_rule 26 = .ok (.getfield 31, 3) := by decide +kernel
theorem dX10_rule_29 : decode cX10_rule 29 = .ok (.invokevirtual 147, 3) := by decide +kernel
theorem dX10_rule_32 : decode cX10_rule 32 = .ok (.iload_n 2, 1) := by decide +kernel
theorem dX10_rule_33 : decode cX10_rule 33 = .ok (.ifCond .lt 8, 3) := by decide +kernel
theorem dX10_rule_36 : decode cX10_rule 36 = .ok (.bipush (-100), 2) := by decide +kernel
theorem dX10_rule_38 : decode cX10_rule 38 = .ok (.iload_n 2, 1) := by decide +kernel
theorem dX10_rule_39 : decode cX10_rule 39 = .ok (.isub, 1) := by decide +kernel
theorem dX10_rule_40 : decode cX10_rule 40 = .ok (.ireturn, 1) := by decide +kernel
theorem dX10_rule_41 : decode cX10_rule 41 = .ok (.aload_n 0, 1) := by decide +kernel
theorem dX10_rule_42 : decode cX10_rule 42 = .ok (.getfield 24, 3) := by decide +kernel
theorem dX10_rule_45 : decode cX10_rule 45 = .ok (.aload_n 0, 1) := by decide +kernel
theorem dX10_rule_46 : decode cX10_rule 46 = .ok (.getfield 14, 3) := by decide +kernel
theorem dX10_rule_49 : decode cX10_rule 49 = .ok (.invokevirtual 106, 3) := by decide +kernel
theorem dX10_rule_52 : decode cX10_rule 52 = .ok (.aload_n 0, 1) := by decide +kernel
theorem dX10_rule_53 : decode cX10_rule 53 = .ok (.getfield 14, 3) := by decide +kernel
theorem dX10_rule_56 : decode cX10_rule 56 = .ok (.getfield 130, 3) := by decide +kernel
theorem dX10_rule_59 : decode cX10_rule 59 = .ok (.iload_n 1, 1) := by decide +kernel
theorem dX10_rule_60 : decode cX10_rule 60 = .ok (.aload_n 0, 1) := by decide +kernel
theorem dX10_rule_61 : decode cX10_rule 61 = .ok (.getfield 38, 3) := by decide +kernel
theorem dX10_rule_64 : decode cX10_rule 64 = .ok (.getfield 150, 3) := by decide +kernel
theorem dX10_rule_67 : decode cX10_rule 67 = .ok (.lastore, 1) := by decide +kernel
theorem dX10_rule_68 : decode cX10_rule 68 = .ok (.aload_n 0, 1) := by decide +kernel
theorem dX10_rule_69 : decode cX10_rule 69 = .ok (.invokevirtual 110, 3) := by decide +kernel
theorem dX10_rule_72 : decode cX10_rule 72 = .ok (.aload_n 0, 1) := by decide +kernel
theorem dX10_rule_73 : decode cX10_rule 73 = .ok (.getfield 38, 3) := by decide +kernel
theorem dX10_rule_76 : decode cX10_rule 76 = .ok (.getfield 150, 3) := by decide +kernel
theorem dX10_rule_79 : decode cX10_rule 79 = .ok (.invokestatic 134, 3) := by decide +kernel
theorem dX10_rule_82 : decode cX10_rule 82 = .ok (.ireturn, 1) := by decide +kernel
theorem dX10_lets_0 : decode cX10_lets 0 = .ok (.aload_n 0, 1) := by decide +kernel
theorem dX10_lets_1 : decode cX10_lets 1 = .ok (.getfield 14, 3) := by decide +kernel
theorem dX10_lets_4 : decode cX10_lets 4 = .ok (.iload_n 1, 1) := by decide +kernel
theorem dX10_lets_5 : decode cX10_lets 5 = .ok (.invokevirtual 113, 3) := by decide +kernel
theorem dX10_lets_8 : decode cX10_lets 8 = .ok (.ifCond .eq 13, 3) := by decide +kernel
theorem dX10_lets_11 : decode cX10_lets 11 = .ok (.iload_n 2, 1) := by decide +kernel
theorem dX10_lets_12 : decode cX10_lets 12 = .ok (.ifCond .lt 9, 3) := by decide +kernel
theorem dX10_lets_15 : decode cX10_lets 15 = .ok (.iload_n 2, 1) := by decide +kernel
theorem dX10_lets_16 : decode cX10_lets 16 = .ok (.bipush 60, 2) := by decide +kernel
theorem dX10_lets_18 : decode cX10_lets 18 = .ok (.if_icmp .le 5, 3) := by decide +kernel
theorem dX10_lets_21 : decode cX10_lets 21 = .ok (.iconst (-1), 1) := by decide +kernel
theorem dX10_lets_22 : decode cX10_lets 22 = .ok (.ireturn, 1) := by decide +kernel
theorem dX10_lets_23 : decode cX10_lets 23 = .ok (.aload_n 0, 1) := by decide +kernel
theorem dX10_lets_24 : decode cX10_lets 24 = .ok (.getfield 14, 3) := by decide +kernel
theorem dX10_lets_27 : decode cX10_lets 27 = .ok (.iload_n 1, 1) := by decide +kernel
theorem dX10_lets_28 : decode cX10_lets 28 = .ok (.iload_n 2, 1) := by decide +kernel
theorem dX10_lets_29 : decode cX10_lets 29 = .ok (.invokevirtual 154, 3) := by decide +kernel
theorem dX10_lets_32 : decode cX10_lets 32 = .ok (.ifCond .eq 7, 3) := by decide +kernel
theorem dX10_lets_35 : decode cX10_lets 35 = .ok (.iconst 1, 1) := by decide +kernel
theorem dX10_lets_36 : decode cX10_lets 36 = .ok (.goto 4, 3) := by decide +kernel
theorem dX10_lets_39 : decode cX10_lets 39 = .ok (.iconst 0, 1) := by decide +kernel
theorem dX10_lets_40 : decode cX10_lets 40 = .ok (.ireturn, 1) := by decide +kernel
theorem dX10_undo_0 : decode cX10_undo 0 = .ok (.aload_n 0, 1) := by decide +kernel
theorem dX10_undo_1 : decode cX10_undo 1 = .ok (.getfield 24, 3) := by decide +kernel
theorem dX10_undo_4 : decode cX10_undo 4 = .ok (.aload_n 0, 1) := by decide +kernel
theorem dX10_undo_5 : decode cX10_undo 5 = .ok (.getfield 14, 3) := by decide +kernel
theorem dX10_undo_8 : decode cX10_undo 8 = .ok (.invokevirtual 157, 3) := by decide +kernel
theorem dX10_undo_11 : decode cX10_undo 11 = .ok (.ifCond .ne 6, 3) := by decide +kernel
theorem dX10_undo_14 : decode cX10_undo 14 = .ok (.bipush (-3), 2) := by decide +kernel
theorem dX10_undo_16 : decode cX10_undo 16 = .ok (.ireturn, 1) := by decide +kernel
theorem dX10_undo_17 : decode cX10_undo 17 = .ok (.aload_n 0, 1) := by decide +kernel
theorem dX10_undo_18 : decode cX10_undo 18 = .ok (.invokevirtual 110, 3) := by decide +kernel
theorem dX10_undo_21 : decode cX10_undo 21 = .ok (.aload_n 0, 1) := by decide +kernel
theorem dX10_undo_22 : decode cX10_undo 22 = .ok (.getfield 24, 3) := by decide +kernel
theorem dX10_undo_25 : decode cX10_undo 25 = .ok (.getfield 161, 3) := by decide +kernel
theorem dX10_undo_28 : decode cX10_undo 28 = .ok (.ireturn, 1) := by decide +kernel
theorem dX10_ways_0 : decode cX10_ways 0 = .ok (.iload_n 1, 1) := by decide +kernel
theorem dX10_ways_1 : decode cX10_ways 1 = .ok (.iload_n 2, 1) := by decide +kernel
theorem dX10_ways_2 : decode cX10_ways 2 = .ok (.bipush 60, 2) := by decide +kernel
theorem dX10_ways_4 : decode cX10_ways 4 = .ok (.invokestatic 164, 3) := by decide +kernel
theorem dX10_ways_7 : decode cX10_ways 7 = .ok (.ifCond .ne 7, 3) := by decide +kernel
theorem dX10_ways_10 : decode cX10_ways 10 = .ok (.ldc2_w 168, 3) := by decide +kernel
theorem dX10_ways_13 : decode cX10_ways 13 = .ok (.lreturn, 1) := by decide +kernel
theorem dX10_ways_14 : decode cX10_ways 14 = .ok (.aload_n 0, 1) := by decide +kernel
theorem dX10_ways_15 : decode cX10_ways 15 = .ok (.getfield 59, 3) := by decide +kernel
theorem dX10_ways_18 : decode cX10_ways 18 = .ok (.iload_n 1, 1) := by decide +kernel
theorem dX10_ways_19 : decode cX10_ways 19 = .ok (.iload_n 2, 1) := by decide +kernel
theorem dX10_ways_20 : decode cX10_ways 20 = .ok (.aload_n 0, 1) := by decide +kernel
theorem dX10_ways_21 : decode cX10_ways 21 = .ok (.getfield 14, 3) := by decide +kernel
theorem dX10_ways_24 : decode cX10_ways 24 = .ok (.invokevirtual 170, 3) := by decide +kernel
theorem dX10_ways_27 : decode cX10_ways 27 = .ok (.aload_n 0, 1) := by decide +kernel
theorem dX10_ways_28 : decode cX10_ways 28 = .ok (.getfield 59, 3) := by decide +kernel
theorem dX10_ways_31 : decode cX10_ways 31 = .ok (.iconst 0, 1) := by decide +kernel
theorem dX10_ways_32 : decode cX10_ways 32 = .ok (.iload_n 1, 1) := by decide +kernel
theorem dX10_ways_33 : decode cX10_ways 33 = .ok (.iload_n 2, 1) := by decide +kernel
theorem dX10_ways_34 : decode cX10_ways 34 = .ok (.invokevirtual 174, 3) := by decide +kernel
theorem dX10_ways_37 : decode cX10_ways 37 = .ok (.lreturn, 1) := by decide +kernel
theorem dX10_free_0 : decode cX10_free 0 = .ok (.iload_n 1, 1) := by decide +kernel
theorem dX10_free_1 : decode cX10_free 1 = .ok (.iload_n 2, 1) := by decide +kernel
theorem dX10_free_2 : decode cX10_free 2 = .ok (.bipush 60, 2) := by decide +kernel
theorem dX10_free_4 : decode cX10_free 4 = .ok (.invokestatic 164, 3) := by decide +kernel
theorem dX10_free_7 : decode cX10_free 7 = .ok (.ifCond .ne 7, 3) := by decide +kernel
theorem dX10_free_10 : decode cX10_free 10 = .ok (.ldc2_w 168, 3) := by decide +kernel
theorem dX10_free_13 : decode cX10_free 13 = .ok (.lreturn, 1) := by decide +kernel
theorem dX10_free_14 : decode cX10_free 14 = .ok (.aload_n 0, 1) := by decide +kernel
theorem dX10_free_15 : decode cX10_free 15 = .ok (.getfield 52, 3) := by decide +kernel
theorem dX10_free_18 : decode cX10_free 18 = .ok (.iload_n 1, 1) := by decide +kernel
theorem dX10_free_19 : decode cX10_free 19 = .ok (.iload_n 2, 1) := by decide +kernel
theorem dX10_free_20 : decode cX10_free 20 = .ok (.aload_n 0, 1) := by decide +kernel
theorem dX10_free_21 : decode cX10_free 21 = .ok (.getfield 14, 3) := by decide +kernel
theorem dX10_free_24 : decode cX10_free 24 = .ok (.invokevirtual 178, 3) := by decide +kernel
theorem dX10_free_27 : decode cX10_free 27 = .ok (.aload_n 0, 1) := by decide +kernel
theorem dX10_free_28 : decode cX10_free 28 = .ok (.getfield 52, 3) := by decide +kernel
theorem dX10_free_31 : decode cX10_free 31 = .ok (.iload_n 1, 1) := by decide +kernel
theorem dX10_free_32 : decode cX10_free 32 = .ok (.iload_n 2, 1) := by decide +kernel
theorem dX10_free_33 : decode cX10_free 33 = .ok (.invokevirtual 179, 3) := by decide +kernel
theorem dX10_free_36 : decode cX10_free 36 = .ok (.lreturn, 1) := by decide +kernel
theorem dX10_strict_0 : decode cX10_strict 0 = .ok (.iload_n 1, 1) := by decide +kernel
theorem dX10_strict_1 : decode cX10_strict 1 = .ok (.iload_n 2, 1) := by decide +kernel
theorem dX10_strict_2 : decode cX10_strict 2 = .ok (.bipush 60, 2) := by decide +kernel
theorem dX10_strict_4 : decode cX10_strict 4 = .ok (.invokestatic 164, 3) := by decide +kernel
theorem dX10_strict_7 : decode cX10_strict 7 = .ok (.ifCond .ne 7, 3) := by decide +kernel
theorem dX10_strict_10 : decode cX10_strict 10 = .ok (.ldc2_w 168, 3) := by decide +kernel
theorem dX10_strict_13 : decode cX10_strict 13 = .ok (.lreturn, 1) := by decide +kernel
theorem dX10_strict_14 : decode cX10_strict 14 = .ok (.aload_n 0, 1) := by decide +kernel
theorem dX10_strict_15 : decode cX10_strict 15 = .ok (.getfield 52, 3) := by decide +kernel
theorem dX10_strict_18 : decode cX10_strict 18 = .ok (.iload_n 1, 1) := by decide +kernel
theorem dX10_strict_19 : decode cX10_strict 19 = .ok (.iload_n 2, 1) := by decide +kernel
theorem dX10_strict_20 : decode cX10_strict 20 = .ok (.aload_n 0, 1) := by decide +kernel
theorem dX10_strict_21 : decode cX10_strict 21 = .ok (.getfield 14, 3) := by decide +kernel
theorem dX10_strict_24 : decode cX10_strict 24 = .ok (.invokevirtual 178, 3) := by decide +kernel
theorem dX10_strict_27 : decode cX10_strict 27 = .ok (.aload_n 0, 1) := by decide +kernel
theorem dX10_strict_28 : decode cX10_strict 28 = .ok (.getfield 52, 3) := by decide +kernel
theorem dX10_strict_31 : decode cX10_strict 31 = .ok (.iload_n 1, 1) := by decide +kernel
theorem dX10_strict_32 : decode cX10_strict 32 = .ok (.aload_n 0, 1) := by decide +kernel
theorem dX10_strict_33 : decode cX10_strict 33 = .ok (.getfield 14, 3) := by decide +kernel
theorem dX10_strict_36 : decode cX10_strict 36 = .ok (.invokevirtual 182, 3) := by decide +kernel
theorem dX10_strict_39 : decode cX10_strict 39 = .ok (.isub, 1) := by decide +kernel
theorem dX10_strict_40 : decode cX10_strict 40 = .ok (.iload_n 2, 1) := by decide +kernel
theorem dX10_strict_41 : decode cX10_strict 41 = .ok (.aload_n 0, 1) := by decide +kernel
theorem dX10_strict_42 : decode cX10_strict 42 = .ok (.getfield 14, 3) := by decide +kernel
theorem dX10_strict_45 : decode cX10_strict 45 = .ok (.invokevirtual 186, 3) := by decide +kernel
theorem dX10_strict_48 : decode cX10_strict 48 = .ok (.isub, 1) := by decide +kernel
theorem dX10_strict_49 : decode cX10_strict 49 = .ok (.invokevirtual 179, 3) := by decide +kernel
theorem dX10_strict_52 : decode cX10_strict 52 = .ok (.lreturn, 1) := by decide +kernel
theorem dX10_way_0 : decode cX10_way 0 = .ok (.iload_n 1, 1) := by decide +kernel
theorem dX10_way_1 : decode cX10_way 1 = .ok (.iload_n 2, 1) := by decide +kernel
theorem dX10_way_2 : decode cX10_way 2 = .ok (.bipush 60, 2) := by decide +kernel
theorem dX10_way_4 : decode cX10_way 4 = .ok (.invokestatic 164, 3) := by decide +kernel
theorem dX10_way_7 : decode cX10_way 7 = .ok (.ifCond .eq 19, 3) := by decide +kernel
theorem dX10_way_10 : decode cX10_way 10 = .ok (.iload_n 3, 1) := by decide +kernel
theorem dX10_way_11 : decode cX10_way 11 = .ok (.ifCond .lt 15, 3) := by decide +kernel
theorem dX10_way_14 : decode cX10_way 14 = .ok (.aload_n 0, 1) := by decide +kernel
theorem dX10_way_15 : decode cX10_way 15 = .ok (.getfield 14, 3) := by decide +kernel
theorem dX10_way_18 : decode cX10_way 18 = .ok (.iload 4, 2) := by decide +kernel
theorem dX10_way_20 : decode cX10_way 20 = .ok (.invokevirtual 113, 3) := by decide +kernel
theorem dX10_way_23 : decode cX10_way 23 = .ok (.ifCond .ne 5, 3) := by decide +kernel
theorem dX10_way_26 : decode cX10_way 26 = .ok (.iconst (-1), 1) := by decide +kernel
theorem dX10_way_27 : decode cX10_way 27 = .ok (.ireturn, 1) := by decide +kernel
theorem dX10_way_28 : decode cX10_way 28 = .ok (.aload_n 0, 1) := by decide +kernel
theorem dX10_way_29 : decode cX10_way 29 = .ok (.getfield 59, 3) := by decide +kernel
theorem dX10_way_32 : decode cX10_way 32 = .ok (.iload_n 1, 1) := by decide +kernel
theorem dX10_way_33 : decode cX10_way 33 = .ok (.iload_n 2, 1) := by decide +kernel
theorem dX10_way_34 : decode cX10_way 34 = .ok (.aload_n 0, 1) := by decide +kernel
theorem dX10_way_35 : decode cX10_way 35 = .ok (.getfield 14, 3) := by decide +kernel
theorem dX10_way_38 : decode cX10_way 38 = .ok (.invokevirtual 170, 3) := by decide +kernel
theorem dX10_way_41 : decode cX10_way 41 = .ok (.iload_n 3, 1) := by decide +kernel
theorem dX10_way_42 : decode cX10_way 42 = .ok (.i2l, 1) := by decide +kernel
theorem dX10_way_43 : decode cX10_way 43 = .ok (.aload_n 0, 1) := by decide +kernel
theorem dX10_way_44 : decode cX10_way 44 = .ok (.getfield 59, 3) := by decide +kernel
theorem dX10_way_47 : decode cX10_way 47 = .ok (.iconst 0, 1) := by decide +kernel
theorem dX10_way_48 : decode cX10_way 48 = .ok (.iload_n 1, 1) := by decide +kernel
theorem dX10_way_49 : decode cX10_way 49 = .ok (.iload_n 2, 1) := by decide +kernel
theorem dX10_way_50 : decode cX10_way 50 = .ok (.invokevirtual 174, 3) := by decide +kernel
theorem dX10_way_53 : decode cX10_way 53 = .ok (.lcmp, 1) := by decide +kernel
theorem dX10_way_54 : decode cX10_way 54 = .ok (.ifCond .lt 6, 3) := by decide +kernel
theorem dX10_way_57 : decode cX10_way 57 = .ok (.bipush (-3), 2) := by decide +kernel
theorem dX10_way_59 : decode cX10_way 59 = .ok (.ireturn, 1) := by decide +kernel
theorem dX10_way_60 : decode cX10_way 60 = .ok (.aload_n 0, 1) := by decide +kernel
theorem dX10_way_61 : decode cX10_way 61 = .ok (.getfield 59, 3) := by decide +kernel
theorem dX10_way_64 : decode cX10_way 64 = .ok (.iload_n 1, 1) := by decide +kernel
theorem dX10_way_65 : decode cX10_way 65 = .ok (.iload_n 2, 1) := by decide +kernel
theorem dX10_way_66 : decode cX10_way 66 = .ok (.iload_n 3, 1) := by decide +kernel
theorem dX10_way_67 : decode cX10_way 67 = .ok (.iload 4, 2) := by decide +kernel
theorem dX10_way_69 : decode cX10_way 69 = .ok (.aload_n 0, 1) := by decide +kernel
theorem dX10_way_70 : decode cX10_way 70 = .ok (.getfield 14, 3) := by decide +kernel
theorem dX10_way_73 : decode cX10_way 73 = .ok (.invokevirtual 189, 3) := by decide +kernel
theorem dX10_way_76 : decode cX10_way 76 = .ok (.ireturn, 1) := by decide +kernel
theorem dX10_fold_0 : decode cX10_fold 0 = .ok (.iload_n 1, 1) := by decide +kernel
theorem dX10_fold_1 : decode cX10_fold 1 = .ok (.ifCond .lt 18, 3) := by decide +kernel
theorem dX10_fold_4 : decode cX10_fold 4 = .ok (.iload_n 1, 1) := by decide +kernel
theorem dX10_fold_5 : decode cX10_fold 5 = .ok (.iconst 3, 1) := by decide +kernel
theorem dX10_fold_6 : decode cX10_fold 6 = .ok (.if_icmp .gt 13, 3) := by decide +kernel
theorem dX10_fold_9 : decode cX10_fold 9 = .ok (.iload_n 2, 1) := by decide +kernel
theorem dX10_fold_10 : decode cX10_fold 10 = .ok (.iload_n 3, 1) := by decide +kernel
theorem dX10_fold_11 : decode cX10_fold 11 = .ok (.bipush 30, 2) := by decide +kernel
theorem dX10_fold_13 : decode cX10_fold 13 = .ok (.invokestatic 164, 3) := by decide +kernel
theorem dX10_fold_16 : decode cX10_fold 16 = .ok (.ifCond .ne 7, 3) := by decide +kernel
theorem dX10_fold_19 : decode cX10_fold 19 = .ok (.ldc2_w 168, 3) := by decide +kernel
theorem dX10_fold_22 : decode cX10_fold 22 = .ok (.lreturn, 1) := by decide +kernel
theorem dX10_fold_23 : decode cX10_fold 23 = .ok (.aload_n 0, 1) := by decide +kernel
theorem dX10_fold_24 : decode cX10_fold 24 = .ok (.getfield 66, 3) := by decide +kernel
theorem dX10_fold_27 : decode cX10_fold 27 = .ok (.iload_n 1, 1) := by decide +kernel
theorem dX10_fold_28 : decode cX10_fold 28 = .ok (.iload_n 2, 1) := by decide +kernel
theorem dX10_fold_29 : decode cX10_fold 29 = .ok (.iload_n 3, 1) := by decide +kernel
theorem dX10_fold_30 : decode cX10_fold 30 = .ok (.aload_n 0, 1) := by decide +kernel
theorem dX10_fold_31 : decode cX10_fold 31 = .ok (.getfield 14, 3) := by decide +kernel
theorem dX10_fold_34 : decode cX10_fold 34 = .ok (.invokevirtual 193, 3) := by decide +kernel
theorem dX10_fold_37 : decode cX10_fold 37 = .ok (.lstore 4, 2) := by decide +kernel
theorem dX10_fold_39 : decode cX10_fold 39 = .ok (.iload_n 1, 1) := by decide +kernel
theorem dX10_fold_40 : decode cX10_fold 40 = .ok (.ifCond .ne 16, 3) := by decide +kernel
theorem dX10_fold_43 : decode cX10_fold 43 = .ok (.lload 4, 2) := by decide +kernel
theorem dX10_fold_45 : decode cX10_fold 45 = .ok (.ldc2_w 197, 3) := by decide +kernel
theorem dX10_fold_48 : decode cX10_fold 48 = .ok (.lcmp, 1) := by decide +kernel
theorem dX10_fold_49 : decode cX10_fold 49 = .ok (.ifCond .ne 7, 3) := by decide +kernel
theorem dX10_fold_52 : decode cX10_fold 52 = .ok (.lconst 0, 1) := by decide +kernel
theorem dX10_fold_53 : decode cX10_fold 53 = .ok (.goto 5, 3) := by decide +kernel
theorem dX10_fold_56 : decode cX10_fold 56 = .ok (.lload 4, 2) := by decide +kernel
theorem dX10_fold_58 : decode cX10_fold 58 = .ok (.lreturn, 1) := by decide +kernel
theorem dX10_ray_0 : decode cX10_ray 0 = .ok (.aload_n 0, 1) := by decide +kernel
theorem dX10_ray_1 : decode cX10_ray 1 = .ok (.getfield 45, 3) := by decide +kernel
theorem dX10_ray_4 : decode cX10_ray 4 = .ok (.iload_n 1, 1) := by decide +kernel
theorem dX10_ray_5 : decode cX10_ray 5 = .ok (.invokevirtual 199, 3) := by decide +kernel
theorem dX10_ray_8 : decode cX10_ray 8 = .ok (.ifCond .ne 5, 3) := by decide +kernel
theorem dX10_ray_11 : decode cX10_ray 11 = .ok (.iconst (-1), 1) := by decide +kernel
theorem dX10_ray_12 : decode cX10_ray 12 = .ok (.ireturn, 1) := by decide +kernel
theorem dX10_ray_13 : decode cX10_ray 13 = .ok (.iload_n 2, 1) := by decide +kernel
theorem dX10_ray_14 : decode cX10_ray 14 = .ok (.tableswitch 56 0 2 #[26, 36, 46], 26) := by decide +kernel
theorem dX10_ray_40 : decode cX10_ray 40 = .ok (.aload_n 0, 1) := by decide +kernel
theorem dX10_ray_41 : decode cX10_ray 41 = .ok (.getfield 45, 3) := by decide +kernel
theorem dX10_ray_44 : decode cX10_ray 44 = .ok (.getfield 202, 3) := by decide +kernel
theorem dX10_ray_47 : decode cX10_ray 47 = .ok (.iload_n 1, 1) := by decide +kernel
theorem dX10_ray_48 : decode cX10_ray 48 = .ok (.iaload, 1) := by decide +kernel
theorem dX10_ray_49 : decode cX10_ray 49 = .ok (.ireturn, 1) := by decide +kernel
theorem dX10_ray_50 : decode cX10_ray 50 = .ok (.aload_n 0, 1) := by decide +kernel
theorem dX10_ray_51 : decode cX10_ray 51 = .ok (.getfield 45, 3) := by decide +kernel
theorem dX10_ray_54 : decode cX10_ray 54 = .ok (.getfield 203, 3) := by decide +kernel
theorem dX10_ray_57 : decode cX10_ray 57 = .ok (.iload_n 1, 1) := by decide +kernel
theorem dX10_ray_58 : decode cX10_ray 58 = .ok (.iaload, 1) := by decide +kernel
theorem dX10_ray_59 : decode cX10_ray 59 = .ok (.ireturn, 1) := by decide +kernel
theorem dX10_ray_60 : decode cX10_ray 60 = .ok (.aload_n 0, 1) := by decide +kernel
theorem dX10_ray_61 : decode cX10_ray 61 = .ok (.getfield 45, 3) := by decide +kernel
theorem dX10_ray_64 : decode cX10_ray 64 = .ok (.getfield 204, 3) := by decide +kernel
theorem dX10_ray_67 : decode cX10_ray 67 = .ok (.iload_n 1, 1) := by decide +kernel
theorem dX10_ray_68 : decode cX10_ray 68 = .ok (.iaload, 1) := by decide +kernel
theorem dX10_ray_69 : decode cX10_ray 69 = .ok (.ireturn, 1) := by decide +kernel
theorem dX10_ray_70 : decode cX10_ray 70 = .ok (.iconst (-1), 1) := by decide +kernel
theorem dX10_ray_71 : decode cX10_ray 71 = .ok (.ireturn, 1) := by decide +kernel
theorem dX10_period_0 : decode cX10_period 0 = .ok (.aload_n 0, 1) := by decide +kernel
theorem dX10_period_1 : decode cX10_period 1 = .ok (.getfield 45, 3) := by decide +kernel
theorem dX10_period_4 : decode cX10_period 4 = .ok (.getfield 207, 3) := by decide +kernel
theorem dX10_period_7 : decode cX10_period 7 = .ok (.ireturn, 1) := by decide +kernel
theorem dX10_unit_0 : decode cX10_unit 0 = .ok (.aload_n 0, 1) := by decide +kernel
theorem dX10_unit_1 : decode cX10_unit 1 = .ok (.getfield 45, 3) := by decide +kernel
theorem dX10_unit_4 : decode cX10_unit 4 = .ok (.getfield 207, 3) := by decide +kernel
theorem dX10_unit_7 : decode cX10_unit 7 = .ok (.iconst 1, 1) := by decide +kernel
theorem dX10_unit_8 : decode cX10_unit 8 = .ok (.if_icmp .ne 7, 3) := by decide +kernel
theorem dX10_unit_11 : decode cX10_unit 11 = .ok (.iconst 1, 1) := by decide +kernel
theorem dX10_unit_12 : decode cX10_unit 12 = .ok (.goto 4, 3) := by decide +kernel
theorem dX10_unit_15 : decode cX10_unit 15 = .ok (.iconst 0, 1) := by decide +kernel
theorem dX10_unit_16 : decode cX10_unit 16 = .ok (.ireturn, 1) := by decide +kernel
theorem dX10_chamberOf_0 : decode cX10_chamberOf 0 = .ok (.iload_n 1, 1) := by decide +kernel
theorem dX10_chamberOf_1 : decode cX10_chamberOf 1 = .ok (.iload_n 2, 1) := by decide +kernel
theorem dX10_chamberOf_2 : decode cX10_chamberOf 2 = .ok (.invokestatic 210, 3) := by decide +kernel
theorem dX10_chamberOf_5 : decode cX10_chamberOf 5 = .ok (.ifCond .ne 5, 3) := by decide +kernel
theorem dX10_chamberOf_8 : decode cX10_chamberOf 8 = .ok (.iconst (-1), 1) := by decide +kernel
theorem dX10_chamberOf_9 : decode cX10_chamberOf 9 = .ok (.ireturn, 1) := by decide +kernel
theorem dX10_chamberOf_10 : decode cX10_chamberOf 10 = .ok (.iconst 0, 1) := by decide +kernel
theorem dX10_chamberOf_11 : decode cX10_chamberOf 11 = .ok (.istore_n 3, 1) := by decide +kernel
theorem dX10_chamberOf_12 : decode cX10_chamberOf 12 = .ok (.iload_n 3, 1) := by decide +kernel
theorem dX10_chamberOf_13 : decode cX10_chamberOf 13 = .ok (.aload_n 0, 1) := by decide +kernel
theorem dX10_chamberOf_14 : decode cX10_chamberOf 14 = .ok (.getfield 45, 3) := by decide +kernel
theorem dX10_chamberOf_17 : decode cX10_chamberOf 17 = .ok (.invokevirtual 213, 3) := by decide +kernel
theorem dX10_chamberOf_20 : decode cX10_chamberOf 20 = .ok (.if_icmp .ge 37, 3) := by decide +kernel
theorem dX10_chamberOf_23 : decode cX10_chamberOf 23 = .ok (.aload_n 0, 1) := by decide +kernel
theorem dX10_chamberOf_24 : decode cX10_chamberOf 24 = .ok (.getfield 45, 3) := by decide +kernel
theorem dX10_chamberOf_27 : decode cX10_chamberOf 27 = .ok (.iload_n 3, 1) := by decide +kernel
theorem dX10_chamberOf_28 : decode cX10_chamberOf 28 = .ok (.iload_n 1, 1) := by decide +kernel
theorem dX10_chamberOf_29 : decode cX10_chamberOf 29 = .ok (.iload_n 2, 1) := by decide +kernel
theorem dX10_chamberOf_30 : decode cX10_chamberOf 30 = .ok (.invokevirtual 216, 3) := by decide +kernel
theorem dX10_chamberOf_33 : decode cX10_chamberOf 33 = .ok (.ifCond .lt 18, 3) := by decide +kernel
theorem dX10_chamberOf_36 : decode cX10_chamberOf 36 = .ok (.aload_n 0, 1) := by decide +kernel
theorem dX10_chamberOf_37 : decode cX10_chamberOf 37 = .ok (.getfield 45, 3) := by decide +kernel
theorem dX10_chamberOf_40 : decode cX10_chamberOf 40 = .ok (.iload_n 3, 1) := by decide +kernel
theorem dX10_chamberOf_41 : decode cX10_chamberOf 41 = .ok (.iload_n 1, 1) := by decide +kernel
theorem dX10_chamberOf_42 : decode cX10_chamberOf 42 = .ok (.iload_n 2, 1) := by decide +kernel
theorem dX10_chamberOf_43 : decode cX10_chamberOf 43 = .ok (.invokevirtual 220, 3) := by decide +kernel
theorem dX10_chamberOf_46 : decode cX10_chamberOf 46 = .ok (.ifCond .lt 5, 3) := by decide +kernel
theorem dX10_chamberOf_49 : decode cX10_chamberOf 49 = .ok (.iload_n 3, 1) := by decide +kernel
theorem dX10_chamberOf_50 : decode cX10_chamberOf 50 = .ok (.ireturn, 1) := by decide +kernel
theorem dX10_chamberOf_51 : decode cX10_chamberOf 51 = .ok (.iinc 3 1, 3) := by decide +kernel
theorem dX10_chamberOf_54 : decode cX10_chamberOf 54 = .ok (.goto (-42), 3) := by decide +kernel
theorem dX10_chamberOf_57 : decode cX10_chamberOf 57 = .ok (.bipush (-3), 2) := by decide +kernel
theorem dX10_chamberOf_59 : decode cX10_chamberOf 59 = .ok (.ireturn, 1) := by decide +kernel
theorem dX10_home_0 : decode cX10_home 0 = .ok (.aload_n 0, 1) := by decide +kernel
theorem dX10_home_1 : decode cX10_home 1 = .ok (.iload_n 1, 1) := by decide +kernel
theorem dX10_home_2 : decode cX10_home 2 = .ok (.invokevirtual 223, 3) := by decide +kernel
theorem dX10_home_5 : decode cX10_home 5 = .ok (.ifCond .eq 11, 3) := by decide +kernel
theorem dX10_home_8 : decode cX10_home 8 = .ok (.iload_n 2, 1) := by decide +kernel
theorem dX10_home_9 : decode cX10_home 9 = .ok (.iload_n 3, 1) := by decide +kernel
theorem dX10_home_10 : decode cX10_home 10 = .ok (.invokestatic 210, 3) := by decide +kernel
theorem dX10_home_13 : decode cX10_home 13 = .ok (.ifCond .ne 5, 3) := by decide +kernel
theorem dX10_home_16 : decode cX10_home 16 = .ok (.iconst (-1), 1) := by decide +kernel
theorem dX10_home_17 : decode cX10_home 17 = .ok (.ireturn, 1) := by decide +kernel
theorem dX10_home_18 : decode cX10_home 18 = .ok (.aload_n 0, 1) := by decide +kernel
theorem dX10_home_19 : decode cX10_home 19 = .ok (.getfield 73, 3) := by decide +kernel
theorem dX10_home_22 : decode cX10_home 22 = .ok (.aload_n 0, 1) := by decide +kernel
theorem dX10_home_23 : decode cX10_home 23 = .ok (.getfield 45, 3) := by decide +kernel
theorem dX10_home_26 : decode cX10_home 26 = .ok (.iload_n 1, 1) := by decide +kernel
theorem dX10_home_27 : decode cX10_home 27 = .ok (.iload_n 2, 1) := by decide +kernel
theorem dX10_home_28 : decode cX10_home 28 = .ok (.iload_n 3, 1) := by decide +kernel
theorem dX10_home_29 : decode cX10_home 29 = .ok (.invokevirtual 226, 3) := by decide +kernel
theorem dX10_home_32 : decode cX10_home 32 = .ok (.iload 4, 2) := by decide +kernel
theorem dX10_home_34 : decode cX10_home 34 = .ok (.tableswitch 70 0 3 #[30, 38, 46, 58], 30) := by decide +kernel
theorem dX10_home_64 : decode cX10_home 64 = .ok (.aload_n 0, 1) := by decide +kernel
theorem dX10_home_65 : decode cX10_home 65 = .ok (.getfield 73, 3) := by decide +kernel
theorem dX10_home_68 : decode cX10_home 68 = .ok (.getfield 230, 3) := by decide +kernel
theorem dX10_home_71 : decode cX10_home 71 = .ok (.ireturn, 1) := by decide +kernel
theorem dX10_home_72 : decode cX10_home 72 = .ok (.aload_n 0, 1) := by decide +kernel
theorem dX10_home_73 : decode cX10_home 73 = .ok (.getfield 73, 3) := by decide +kernel
theorem dX10_home_76 : decode cX10_home 76 = .ok (.getfield 233, 3) := by decide +kernel
theorem dX10_home_79 : decode cX10_home 79 = .ok (.ireturn, 1) := by decide +kernel
theorem dX10_home_80 : decode cX10_home 80 = .ok (.sipush 1000, 3) := by decide +kernel
theorem dX10_home_83 : decode cX10_home 83 = .ok (.aload_n 0, 1) := by decide +kernel
theorem dX10_home_84 : decode cX10_home 84 = .ok (.getfield 73, 3) := by decide +kernel
theorem dX10_home_87 : decode cX10_home 87 = .ok (.getfield 236, 3) := by decide +kernel
theorem dX10_home_90 : decode cX10_home 90 = .ok (.iadd, 1) := by decide +kernel
theorem dX10_home_91 : decode cX10_home 91 = .ok (.ireturn, 1) := by decide +kernel
theorem dX10_home_92 : decode cX10_home 92 = .ok (.sipush 1000, 3) := by decide +kernel
theorem dX10_home_95 : decode cX10_home 95 = .ok (.aload_n 0, 1) := by decide +kernel
theorem dX10_home_96 : decode cX10_home 96 = .ok (.getfield 73, 3) := by decide +kernel
theorem dX10_home_99 : decode cX10_home 99 = .ok (.getfield 239, 3) := by decide +kernel
theorem dX10_home_102 : decode cX10_home 102 = .ok (.iadd, 1) := by decide +kernel
theorem dX10_home_103 : decode cX10_home 103 = .ok (.ireturn, 1) := by decide +kernel
theorem dX10_home_104 : decode cX10_home 104 = .ok (.iconst (-1), 1) := by decide +kernel
theorem dX10_home_105 : decode cX10_home 105 = .ok (.ireturn, 1) := by decide +kernel
theorem dX10_difference_0 : decode cX10_difference 0 = .ok (.aload_n 0, 1) := by decide +kernel
theorem dX10_difference_1 : decode cX10_difference 1 = .ok (.iload_n 1, 1) := by decide +kernel
theorem dX10_difference_2 : decode cX10_difference 2 = .ok (.invokevirtual 223, 3) := by decide +kernel
theorem dX10_difference_5 : decode cX10_difference 5 = .ok (.ifCond .eq 11, 3) := by decide +kernel
theorem dX10_difference_8 : decode cX10_difference 8 = .ok (.iload_n 2, 1) := by decide +kernel
theorem dX10_difference_9 : decode cX10_difference 9 = .ok (.iload_n 3, 1) := by decide +kernel
theorem dX10_difference_10 : decode cX10_difference 10 = .ok (.invokestatic 210, 3) := by decide +kernel
theorem dX10_difference_13 : decode cX10_difference 13 = .ok (.ifCond .ne 7, 3) := by decide +kernel
theorem dX10_difference_16 : decode cX10_difference 16 = .ok (.ldc2_w 168, 3) := by decide +kernel
theorem dX10_difference_19 : decode cX10_difference 19 = .ok (.lreturn, 1) := by decide +kernel
theorem dX10_difference_20 : decode cX10_difference 20 = .ok (.aload_n 0, 1) := by decide +kernel
theorem dX10_difference_21 : decode cX10_difference 21 = .ok (.getfield 14, 3) := by decide +kernel
theorem dX10_difference_24 : decode cX10_difference 24 = .ok (.getfield 103, 3) := by decide +kernel
theorem dX10_difference_27 : decode cX10_difference 27 = .ok (.iconst 2, 1) := by decide +kernel
theorem dX10_difference_28 : decode cX10_difference 28 = .ok (.isub, 1) := by decide +kernel
theorem dX10_difference_29 : decode cX10_difference 29 = .ok (.istore 6, 2) := by decide +kernel
theorem dX10_difference_31 : decode cX10_difference 31 = .ok (.iload 4, 2) := by decide +kernel
theorem dX10_difference_33 : decode cX10_difference 33 = .ok (.ifCond .lt 25, 3) := by decide +kernel
theorem dX10_difference_36 : decode cX10_difference 36 = .ok (.iload 5, 2) := by decide +kernel
theorem dX10_difference_38 : decode cX10_difference 38 = .ok (.ifCond .lt 20, 3) := by decide +kernel
theorem dX10_difference_41 : decode cX10_difference 41 = .ok (.iload 5, 2) := by decide +kernel
theorem dX10_difference_43 : decode cX10_difference 43 = .ok (.iload 6, 2) := by decide +kernel
theorem dX10_difference_45 : decode cX10_difference 45 = .ok (.if_icmp .gt 13, 3) := by decide +kernel
theorem dX10_difference_48 : decode cX10_difference 48 = .ok (.iload 4, 2) := by decide +kernel
theorem dX10_difference_50 : decode cX10_difference 50 = .ok (.iload 6, 2) := by decide +kernel
theorem dX10_difference_52 : decode cX10_difference 52 = .ok (.iload 5, 2) := by decide +kernel
theorem dX10_difference_54 : decode cX10_difference 54 = .ok (.isub, 1) := by decide +kernel
theorem dX10_difference_55 : decode cX10_difference 55 = .ok (.if_icmp .le 7, 3) := by decide +kernel
theorem dX10_difference_58 : decode cX10_difference 58 = .ok (.ldc2_w 168, 3) := by decide +kernel
theorem dX10_difference_61 : decode cX10_difference 61 = .ok (.lreturn, 1) := by decide +kernel
theorem dX10_difference_62 : decode cX10_difference 62 = .ok (.aload_n 0, 1) := by decide +kernel
theorem dX10_difference_63 : decode cX10_difference 63 = .ok (.iload_n 1, 1) := by decide +kernel
theorem dX10_difference_64 : decode cX10_difference 64 = .ok (.iload_n 2, 1) := by decide +kernel
theorem dX10_difference_65 : decode cX10_difference 65 = .ok (.iload_n 3, 1) := by decide +kernel
theorem dX10_difference_66 : decode cX10_difference 66 = .ok (.invokevirtual 242, 3) := by decide +kernel
theorem dX10_difference_69 : decode cX10_difference 69 = .ok (.aload_n 0, 1) := by decide +kernel
theorem dX10_difference_70 : decode cX10_difference 70 = .ok (.getfield 73, 3) := by decide +kernel
theorem dX10_difference_73 : decode cX10_difference 73 = .ok (.iload 6, 2) := by decide +kernel
theorem dX10_difference_75 : decode cX10_difference 75 = .ok (.aload_n 0, 1) := by decide +kernel
theorem dX10_difference_76 : decode cX10_difference 76 = .ok (.getfield 52, 3) := by decide +kernel
theorem dX10_difference_79 : decode cX10_difference 79 = .ok (.invokevirtual 246, 3) := by decide +kernel
theorem dX10_difference_82 : decode cX10_difference 82 = .ok (.aload_n 0, 1) := by decide +kernel
theorem dX10_difference_83 : decode cX10_difference 83 = .ok (.getfield 73, 3) := by decide +kernel
theorem dX10_difference_86 : decode cX10_difference 86 = .ok (.iload 4, 2) := by decide +kernel
theorem dX10_difference_88 : decode cX10_difference 88 = .ok (.iload 5, 2) := by decide +kernel
theorem dX10_difference_90 : decode cX10_difference 90 = .ok (.invokevirtual 250, 3) := by decide +kernel
theorem dX10_difference_93 : decode cX10_difference 93 = .ok (.lreturn, 1) := by decide +kernel
theorem dX10_formula_0 : decode cX10_formula 0 = .ok (.aload_n 0, 1) := by decide +kernel
theorem dX10_formula_1 : decode cX10_formula 1 = .ok (.iload_n 1, 1) := by decide +kernel
theorem dX10_formula_2 : decode cX10_formula 2 = .ok (.invokevirtual 223, 3) := by decide +kernel
theorem dX10_formula_5 : decode cX10_formula 5 = .ok (.ifCond .eq 11, 3) := by decide +kernel
theorem dX10_formula_8 : decode cX10_formula 8 = .ok (.iload_n 2, 1) := by decide +kernel
theorem dX10_formula_9 : decode cX10_formula 9 = .ok (.iload_n 3, 1) := by decide +kernel
theorem dX10_formula_10 : decode cX10_formula 10 = .ok (.invokestatic 210, 3) := by decide +kernel
theorem dX10_formula_13 : decode cX10_formula 13 = .ok (.ifCond .ne 7, 3) := by decide +kernel
theorem dX10_formula_16 : decode cX10_formula 16 = .ok (.ldc2_w 168, 3) := by decide +kernel
theorem dX10_formula_19 : decode cX10_formula 19 = .ok (.lreturn, 1) := by decide +kernel
theorem dX10_formula_20 : decode cX10_formula 20 = .ok (.aload_n 0, 1) := by decide +kernel
theorem dX10_formula_21 : decode cX10_formula 21 = .ok (.iload_n 1, 1) := by decide +kernel
theorem dX10_formula_22 : decode cX10_formula 22 = .ok (.iload_n 2, 1) := by decide +kernel
theorem dX10_formula_23 : decode cX10_formula 23 = .ok (.iload_n 3, 1) := by decide +kernel
theorem dX10_formula_24 : decode cX10_formula 24 = .ok (.invokevirtual 242, 3) := by decide +kernel
theorem dX10_formula_27 : decode cX10_formula 27 = .ok (.aload_n 0, 1) := by decide +kernel
theorem dX10_formula_28 : decode cX10_formula 28 = .ok (.getfield 73, 3) := by decide +kernel
theorem dX10_formula_31 : decode cX10_formula 31 = .ok (.aload_n 0, 1) := by decide +kernel
theorem dX10_formula_32 : decode cX10_formula 32 = .ok (.getfield 14, 3) := by decide +kernel
theorem dX10_formula_35 : decode cX10_formula 35 = .ok (.getfield 103, 3) := by decide +kernel
theorem dX10_formula_38 : decode cX10_formula 38 = .ok (.iconst 2, 1) := by decide +kernel
theorem dX10_formula_39 : decode cX10_formula 39 = .ok (.isub, 1) := by decide +kernel
theorem dX10_formula_40 : decode cX10_formula 40 = .ok (.aload_n 0, 1) := by decide +kernel
theorem dX10_formula_41 : decode cX10_formula 41 = .ok (.getfield 52, 3) := by decide +kernel
theorem dX10_formula_44 : decode cX10_formula 44 = .ok (.invokevirtual 253, 3) := by decide +kernel
theorem dX10_formula_47 : decode cX10_formula 47 = .ok (.lreturn, 1) := by decide +kernel
theorem dX10_agrees_0 : decode cX10_agrees 0 = .ok (.aload_n 0, 1) := by decide +kernel
theorem dX10_agrees_1 : decode cX10_agrees 1 = .ok (.iload_n 1, 1) := by decide +kernel
theorem dX10_agrees_2 : decode cX10_agrees 2 = .ok (.invokevirtual 223, 3) := by decide +kernel
theorem dX10_agrees_5 : decode cX10_agrees 5 = .ok (.ifCond .eq 13, 3) := by decide +kernel
theorem dX10_agrees_8 : decode cX10_agrees 8 = .ok (.iload_n 2, 1) := by decide +kernel
theorem dX10_agrees_9 : decode cX10_agrees 9 = .ok (.ifCond .lt 9, 3) := by decide +kernel
theorem dX10_agrees_12 : decode cX10_agrees 12 = .ok (.iload_n 2, 1) := by decide +kernel
theorem dX10_agrees_13 : decode cX10_agrees 13 = .ok (.bipush 30, 2) := by decide +kernel
theorem dX10_agrees_15 : decode cX10_agrees 15 = .ok (.if_icmp .le 5, 3) := by decide +kernel
theorem dX10_agrees_18 : decode cX10_agrees 18 = .ok (.iconst (-1), 1) := by decide +kernel
theorem dX10_agrees_19 : decode cX10_agrees 19 = .ok (.ireturn, 1) := by decide +kernel
theorem dX10_agrees_20 : decode cX10_agrees 20 = .ok (.aload_n 0, 1) := by decide +kernel
theorem dX10_agrees_21 : decode cX10_agrees 21 = .ok (.iload_n 1, 1) := by decide +kernel
theorem dX10_agrees_22 : decode cX10_agrees 22 = .ok (.iload_n 2, 1) := by decide +kernel
theorem dX10_agrees_23 : decode cX10_agrees 23 = .ok (.iload_n 2, 1) := by decide +kernel
theorem dX10_agrees_24 : decode cX10_agrees 24 = .ok (.invokevirtual 242, 3) := by decide +kernel
theorem dX10_agrees_27 : decode cX10_agrees 27 = .ok (.aload_n 0, 1) := by decide +kernel
theorem dX10_agrees_28 : decode cX10_agrees 28 = .ok (.getfield 52, 3) := by decide +kernel
theorem dX10_agrees_31 : decode cX10_agrees 31 = .ok (.iload_n 2, 1) := by decide +kernel
theorem dX10_agrees_32 : decode cX10_agrees 32 = .ok (.iload_n 2, 1) := by decide +kernel
theorem dX10_agrees_33 : decode cX10_agrees 33 = .ok (.aload_n 0, 1) := by decide +kernel
theorem dX10_agrees_34 : decode cX10_agrees 34 = .ok (.getfield 14, 3) := by decide +kernel
theorem dX10_agrees_37 : decode cX10_agrees 37 = .ok (.invokevirtual 178, 3) := by decide +kernel
theorem dX10_agrees_40 : decode cX10_agrees 40 = .ok (.iconst 0, 1) := by decide +kernel
theorem dX10_agrees_41 : decode cX10_agrees 41 = .ok (.istore_n 3, 1) := by decide +kernel
theorem dX10_agrees_42 : decode cX10_agrees 42 = .ok (.iconst 0, 1) := by decide +kernel
theorem dX10_agrees_43 : decode cX10_agrees 43 = .ok (.istore 4, 2) := by decide +kernel
theorem dX10_agrees_45 : decode cX10_agrees 45 = .ok (.iload 4, 2) := by decide +kernel
theorem dX10_agrees_47 : decode cX10_agrees 47 = .ok (.iload_n 2, 1) := by decide +kernel
theorem dX10_agrees_48 : decode cX10_agrees 48 = .ok (.if_icmp .gt 78, 3) := by decide +kernel
theorem dX10_agrees_51 : decode cX10_agrees 51 = .ok (.iconst 0, 1) := by decide +kernel
theorem dX10_agrees_52 : decode cX10_agrees 52 = .ok (.istore 5, 2) := by decide +kernel
theorem dX10_agrees_54 : decode cX10_agrees 54 = .ok (.iload 5, 2) := by decide +kernel
theorem dX10_agrees_56 : decode cX10_agrees 56 = .ok (.iload_n 2, 1) := by decide +kernel
theorem dX10_agrees_57 : decode cX10_agrees 57 = .ok (.if_icmp .gt 63, 3) := by decide +kernel
theorem dX10_agrees_60 : decode cX10_agrees 60 = .ok (.aload_n 0, 1) := by decide +kernel
theorem dX10_agrees_61 : decode cX10_agrees 61 = .ok (.getfield 73, 3) := by decide +kernel
theorem dX10_agrees_64 : decode cX10_agrees 64 = .ok (.aload_n 0, 1) := by decide +kernel
theorem dX10_agrees_65 : decode cX10_agrees 65 = .ok (.getfield 45, 3) := by decide +kernel
theorem dX10_agrees_68 : decode cX10_agrees 68 = .ok (.iload_n 1, 1) := by decide +kernel
theorem dX10_agrees_69 : decode cX10_agrees 69 = .ok (.iload 4, 2) := by decide +kernel
theorem dX10_agrees_71 : decode cX10_agrees 71 = .ok (.iload 5, 2) := by decide +kernel
theorem dX10_agrees_73 : decode cX10_agrees 73 = .ok (.invokevirtual 226, 3) := by decide +kernel
theorem dX10_agrees_76 : decode cX10_agrees 76 = .ok (.aload_n 0, 1) := by decide +kernel
theorem dX10_agrees_77 : decode cX10_agrees 77 = .ok (.getfield 73, 3) := by decide +kernel
theorem dX10_agrees_80 : decode cX10_agrees 80 = .ok (.aload_n 0, 1) := by decide +kernel
theorem dX10_agrees_81 : decode cX10_agrees 81 = .ok (.getfield 14, 3) := by decide +kernel
theorem dX10_agrees_84 : decode cX10_agrees 84 = .ok (.getfield 103, 3) := by decide +kernel
theorem dX10_agrees_87 : decode cX10_agrees 87 = .ok (.iconst 2, 1) := by decide +kernel
theorem dX10_agrees_88 : decode cX10_agrees 88 = .ok (.isub, 1) := by decide +kernel
theorem dX10_agrees_89 : decode cX10_agrees 89 = .ok (.aload_n 0, 1) := by decide +kernel
theorem dX10_agrees_90 : decode cX10_agrees 90 = .ok (.getfield 52, 3) := by decide +kernel
theorem dX10_agrees_93 : decode cX10_agrees 93 = .ok (.invokevirtual 253, 3) := by decide +kernel
theorem dX10_agrees_96 : decode cX10_agrees 96 = .ok (.aload_n 0, 1) := by decide +kernel
theorem dX10_agrees_97 : decode cX10_agrees 97 = .ok (.getfield 52, 3) := by decide +kernel
theorem dX10_agrees_100 : decode cX10_agrees 100 = .ok (.iload 4, 2) := by decide +kernel
theorem dX10_agrees_102 : decode cX10_agrees 102 = .ok (.iload 5, 2) := by decide +kernel
theorem dX10_agrees_104 : decode cX10_agrees 104 = .ok (.invokevirtual 179, 3) := by decide +kernel
theorem dX10_agrees_107 : decode cX10_agrees 107 = .ok (.lcmp, 1) := by decide +kernel
theorem dX10_agrees_108 : decode cX10_agrees 108 = .ok (.ifCond .ne 6, 3) := by decide +kernel
theorem dX10_agrees_111 : decode cX10_agrees 111 = .ok (.iinc 3 1, 3) := by decide +kernel
theorem dX10_agrees_114 : decode cX10_agrees 114 = .ok (.iinc 5 1, 3) := by decide +kernel
theorem dX10_agrees_117 : decode cX10_agrees 117 = .ok (.goto (-63), 3) := by decide +kernel
theorem dX10_agrees_120 : decode cX10_agrees 120 = .ok (.iinc 4 1, 3) := by decide +kernel
theorem dX10_agrees_123 : decode cX10_agrees 123 = .ok (.goto (-78), 3) := by decide +kernel
theorem dX10_agrees_126 : decode cX10_agrees 126 = .ok (.iload_n 3, 1) := by decide +kernel
theorem dX10_agrees_127 : decode cX10_agrees 127 = .ok (.ireturn, 1) := by decide +kernel
theorem dX10_sheet_0 : decode cX10_sheet 0 = .ok (.aload_n 0, 1) := by decide +kernel
theorem dX10_sheet_1 : decode cX10_sheet 1 = .ok (.iload_n 1, 1) := by decide +kernel
theorem dX10_sheet_2 : decode cX10_sheet 2 = .ok (.invokevirtual 257, 3) := by decide +kernel
theorem dX10_sheet_5 : decode cX10_sheet 5 = .ok (.astore 4, 2) := by decide +kernel
theorem dX10_sheet_7 : decode cX10_sheet 7 = .ok (.aload 4, 2) := by decide +kernel
theorem dX10_sheet_9 : decode cX10_sheet 9 = .ok (.ifnull 13, 3) := by decide +kernel
theorem dX10_sheet_12 : decode cX10_sheet 12 = .ok (.iload_n 2, 1) := by decide +kernel
theorem dX10_sheet_13 : decode cX10_sheet 13 = .ok (.iconst (-1), 1) := by decide +kernel
theorem dX10_sheet_14 : decode cX10_sheet 14 = .ok (.if_icmp .lt 8, 3) := by decide +kernel
theorem dX10_sheet_17 : decode cX10_sheet 17 = .ok (.iload_n 2, 1) := by decide +kernel
theorem dX10_sheet_18 : decode cX10_sheet 18 = .ok (.iconst 2, 1) := by decide +kernel
theorem dX10_sheet_19 : decode cX10_sheet 19 = .ok (.if_icmp .le 5, 3) := by decide +kernel
theorem dX10_sheet_22 : decode cX10_sheet 22 = .ok (.iconst (-1), 1) := by decide +kernel
theorem dX10_sheet_23 : decode cX10_sheet 23 = .ok (.ireturn, 1) := by decide +kernel
theorem dX10_sheet_24 : decode cX10_sheet 24 = .ok (.iload_n 2, 1) := by decide +kernel
theorem dX10_sheet_25 : decode cX10_sheet 25 = .ok (.iconst (-1), 1) := by decide +kernel
theorem dX10_sheet_26 : decode cX10_sheet 26 = .ok (.if_icmp .ne 12, 3) := by decide +kernel
theorem dX10_sheet_29 : decode cX10_sheet 29 = .ok (.aload 4, 2) := by decide +kernel
theorem dX10_sheet_31 : decode cX10_sheet 31 = .ok (.iconst (-1), 1) := by decide +kernel
theorem dX10_sheet_32 : decode cX10_sheet 32 = .ok (.iconst 0, 1) := by decide +kernel
theorem dX10_sheet_33 : decode cX10_sheet 33 = .ok (.invokevirtual 261, 3) := by decide +kernel
theorem dX10_sheet_36 : decode cX10_sheet 36 = .ok (.iconst 1, 1) := by decide +kernel
theorem dX10_sheet_37 : decode cX10_sheet 37 = .ok (.ireturn, 1) := by decide +kernel
theorem dX10_sheet_38 : decode cX10_sheet 38 = .ok (.iload_n 3, 1) := by decide +kernel
theorem dX10_sheet_39 : decode cX10_sheet 39 = .ok (.bipush 60, 2) := by decide +kernel
theorem dX10_sheet_41 : decode cX10_sheet 41 = .ok (.if_icmp .le 5, 3) := by decide +kernel
theorem dX10_sheet_44 : decode cX10_sheet 44 = .ok (.iconst (-1), 1) := by decide +kernel
theorem dX10_sheet_45 : decode cX10_sheet 45 = .ok (.ireturn, 1) := by decide +kernel
theorem dX10_sheet_46 : decode cX10_sheet 46 = .ok (.iload_n 3, 1) := by decide +kernel
theorem dX10_sheet_47 : decode cX10_sheet 47 = .ok (.ifCond .ge 6, 3) := by decide +kernel
theorem dX10_sheet_50 : decode cX10_sheet 50 = .ok (.bipush (-14), 2) := by decide +kernel
theorem dX10_sheet_52 : decode cX10_sheet 52 = .ok (.ireturn, 1) := by decide +kernel
theorem dX10_sheet_53 : decode cX10_sheet 53 = .ok (.aload 4, 2) := by decide +kernel
theorem dX10_sheet_55 : decode cX10_sheet 55 = .ok (.iload_n 2, 1) := by decide +kernel
theorem dX10_sheet_56 : decode cX10_sheet 56 = .ok (.iload_n 3, 1) := by decide +kernel
theorem dX10_sheet_57 : decode cX10_sheet 57 = .ok (.invokevirtual 261, 3) := by decide +kernel
theorem dX10_sheet_60 : decode cX10_sheet 60 = .ok (.iconst 1, 1) := by decide +kernel
theorem dX10_sheet_61 : decode cX10_sheet 61 = .ok (.ireturn, 1) := by decide +kernel
theorem dX10_put_0 : decode cX10_put 0 = .ok (.aload_n 0, 1) := by decide +kernel
theorem dX10_put_1 : decode cX10_put 1 = .ok (.iload_n 1, 1) := by decide +kernel
theorem dX10_put_2 : decode cX10_put 2 = .ok (.invokevirtual 257, 3) := by decide +kernel
theorem dX10_put_5 : decode cX10_put 5 = .ok (.astore 5, 2) := by decide +kernel
theorem dX10_put_7 : decode cX10_put 7 = .ok (.aload 5, 2) := by decide +kernel
theorem dX10_put_9 : decode cX10_put 9 = .ok (.ifnonnull 5, 3) := by decide +kernel
theorem dX10_put_12 : decode cX10_put 12 = .ok (.iconst (-1), 1) := by decide +kernel
theorem dX10_put_13 : decode cX10_put 13 = .ok (.ireturn, 1) := by decide +kernel
theorem dX10_put_14 : decode cX10_put 14 = .ok (.aload 5, 2) := by decide +kernel
theorem dX10_put_16 : decode cX10_put 16 = .ok (.getfield 265, 3) := by decide +kernel
theorem dX10_put_19 : decode cX10_put 19 = .ok (.iconst (-1), 1) := by decide +kernel
theorem dX10_put_20 : decode cX10_put 20 = .ok (.if_icmp .ne 6, 3) := by decide +kernel
theorem dX10_put_23 : decode cX10_put 23 = .ok (.bipush (-11), 2) := by decide +kernel
theorem dX10_put_25 : decode cX10_put 25 = .ok (.ireturn, 1) := by decide +kernel
theorem dX10_put_26 : decode cX10_put 26 = .ok (.aload 5, 2) := by decide +kernel
theorem dX10_put_28 : decode cX10_put 28 = .ok (.iload_n 2, 1) := by decide +kernel
theorem dX10_put_29 : decode cX10_put 29 = .ok (.invokevirtual 268, 3) := by decide +kernel
theorem dX10_put_32 : decode cX10_put 32 = .ok (.ifCond .ne 6, 3) := by decide +kernel
theorem dX10_put_35 : decode cX10_put 35 = .ok (.bipush (-12), 2) := by decide +kernel
theorem dX10_put_37 : decode cX10_put 37 = .ok (.ireturn, 1) := by decide +kernel
theorem dX10_put_38 : decode cX10_put 38 = .ok (.aload 5, 2) := by decide +kernel
theorem dX10_put_40 : decode cX10_put 40 = .ok (.getfield 271, 3) := by decide +kernel
theorem dX10_put_43 : decode cX10_put 43 = .ok (.iload_n 2, 1) := by decide +kernel
theorem dX10_put_44 : decode cX10_put 44 = .ok (.aload 5, 2) := by decide +kernel
theorem dX10_put_46 : decode cX10_put 46 = .ok (.lload_n 3, 1) := by decide +kernel
theorem dX10_put_47 : decode cX10_put 47 = .ok (.invokevirtual 274, 3) := by decide +kernel
theorem dX10_put_50 : decode cX10_put 50 = .ok (.lastore, 1) := by decide +kernel
theorem dX10_put_51 : decode cX10_put 51 = .ok (.iconst 1, 1) := by decide +kernel
theorem dX10_put_52 : decode cX10_put 52 = .ok (.ireturn, 1) := by decide +kernel
theorem dX10_item_0 : decode cX10_item 0 = .ok (.aload_n 0, 1) := by decide +kernel
theorem dX10_item_1 : decode cX10_item 1 = .ok (.iload_n 1, 1) := by decide +kernel
theorem dX10_item_2 : decode cX10_item 2 = .ok (.invokevirtual 257, 3) := by decide +kernel
theorem dX10_item_5 : decode cX10_item 5 = .ok (.astore 4, 2) := by decide +kernel
theorem dX10_item_7 : decode cX10_item 7 = .ok (.aload 4, 2) := by decide +kernel
theorem dX10_item_9 : decode cX10_item 9 = .ok (.ifnull 12, 3) := by decide +kernel
theorem dX10_item_12 : decode cX10_item 12 = .ok (.iload_n 2, 1) := by decide +kernel
theorem dX10_item_13 : decode cX10_item 13 = .ok (.ifCond .lt 8, 3) := by decide +kernel
theorem dX10_item_16 : decode cX10_item 16 = .ok (.iload_n 2, 1) := by decide +kernel
theorem dX10_item_17 : decode cX10_item 17 = .ok (.iconst 2, 1) := by decide +kernel
theorem dX10_item_18 : decode cX10_item 18 = .ok (.if_icmp .le 5, 3) := by decide +kernel
theorem dX10_item_21 : decode cX10_item 21 = .ok (.iconst (-1), 1) := by decide +kernel
theorem dX10_item_22 : decode cX10_item 22 = .ok (.ireturn, 1) := by decide +kernel
theorem dX10_item_23 : decode cX10_item 23 = .ok (.aload 4, 2) := by decide +kernel
theorem dX10_item_25 : decode cX10_item 25 = .ok (.getfield 265, 3) := by decide +kernel
theorem dX10_item_28 : decode cX10_item 28 = .ok (.iconst (-1), 1) := by decide +kernel
theorem dX10_item_29 : decode cX10_item 29 = .ok (.if_icmp .ne 6, 3) := by decide +kernel
theorem dX10_item_32 : decode cX10_item 32 = .ok (.bipush (-11), 2) := by decide +kernel
theorem dX10_item_34 : decode cX10_item 34 = .ok (.ireturn, 1) := by decide +kernel
theorem dX10_item_35 : decode cX10_item 35 = .ok (.aload 4, 2) := by decide +kernel
theorem dX10_item_37 : decode cX10_item 37 = .ok (.getfield 265, 3) := by decide +kernel
theorem dX10_item_40 : decode cX10_item 40 = .ok (.iload_n 2, 1) := by decide +kernel
theorem dX10_item_41 : decode cX10_item 41 = .ok (.if_icmp .eq 6, 3) := by decide +kernel
theorem dX10_item_44 : decode cX10_item 44 = .ok (.bipush (-13), 2) := by decide +kernel
theorem dX10_item_46 : decode cX10_item 46 = .ok (.ireturn, 1) := by decide +kernel
theorem dX10_item_47 : decode cX10_item 47 = .ok (.aload 4, 2) := by decide +kernel
theorem dX10_item_49 : decode cX10_item 49 = .ok (.iload_n 3, 1) := by decide +kernel
theorem dX10_item_50 : decode cX10_item 50 = .ok (.invokevirtual 268, 3) := by decide +kernel
theorem dX10_item_53 : decode cX10_item 53 = .ok (.ifCond .ne 6, 3) := by decide +kernel
theorem dX10_item_56 : decode cX10_item 56 = .ok (.bipush (-12), 2) := by decide +kernel
theorem dX10_item_58 : decode cX10_item 58 = .ok (.ireturn, 1) := by decide +kernel
theorem dX10_item_59 : decode cX10_item 59 = .ok (.aload 4, 2) := by decide +kernel
theorem dX10_item_61 : decode cX10_item 61 = .ok (.getfield 271, 3) := by decide +kernel
theorem dX10_item_64 : decode cX10_item 64 = .ok (.iload_n 3, 1) := by decide +kernel
theorem dX10_item_65 : decode cX10_item 65 = .ok (.laload, 1) := by decide +kernel
theorem dX10_item_66 : decode cX10_item 66 = .ok (.l2i, 1) := by decide +kernel
theorem dX10_item_67 : decode cX10_item 67 = .ok (.ireturn, 1) := by decide +kernel
theorem dX10_lay_0 : decode cX10_lay 0 = .ok (.aload_n 0, 1) := by decide +kernel
theorem dX10_lay_1 : decode cX10_lay 1 = .ok (.iload_n 1, 1) := by decide +kernel
theorem dX10_lay_2 : decode cX10_lay 2 = .ok (.invokevirtual 257, 3) := by decide +kernel
theorem dX10_lay_5 : decode cX10_lay 5 = .ok (.astore_n 3, 1) := by decide +kernel
theorem dX10_lay_6 : decode cX10_lay 6 = .ok (.aload_n 3, 1) := by decide +kernel
theorem dX10_lay_7 : decode cX10_lay 7 = .ok (.iload_n 2, 1) := by decide +kernel
theorem dX10_lay_8 : decode cX10_lay 8 = .ok (.invokestatic 278, 3) := by decide +kernel
theorem dX10_lay_11 : decode cX10_lay 11 = .ok (.istore 4, 2) := by decide +kernel
theorem dX10_lay_13 : decode cX10_lay 13 = .ok (.aload_n 3, 1) := by decide +kernel
theorem dX10_lay_14 : decode cX10_lay 14 = .ok (.ifnull 8, 3) := by decide +kernel
theorem dX10_lay_17 : decode cX10_lay 17 = .ok (.iload 4, 2) := by decide +kernel
theorem dX10_lay_19 : decode cX10_lay 19 = .ok (.ifCond .eq 6, 3) := by decide +kernel
theorem dX10_lay_22 : decode cX10_lay 22 = .ok (.iload 4, 2) := by decide +kernel
theorem dX10_lay_24 : decode cX10_lay 24 = .ok (.ireturn, 1) := by decide +kernel
theorem dX10_lay_25 : decode cX10_lay 25 = .ok (.aload_n 0, 1) := by decide +kernel
theorem dX10_lay_26 : decode cX10_lay 26 = .ok (.getfield 59, 3) := by decide +kernel
theorem dX10_lay_29 : decode cX10_lay 29 = .ok (.iload_n 2, 1) := by decide +kernel
theorem dX10_lay_30 : decode cX10_lay 30 = .ok (.iconst 1, 1) := by decide +kernel
theorem dX10_lay_31 : decode cX10_lay 31 = .ok (.isub, 1) := by decide +kernel
theorem dX10_lay_32 : decode cX10_lay 32 = .ok (.aload_n 3, 1) := by decide +kernel
theorem dX10_lay_33 : decode cX10_lay 33 = .ok (.iload_n 2, 1) := by decide +kernel
theorem dX10_lay_34 : decode cX10_lay 34 = .ok (.invokevirtual 282, 3) := by decide +kernel
theorem dX10_lay_37 : decode cX10_lay 37 = .ok (.aload_n 0, 1) := by decide +kernel
theorem dX10_lay_38 : decode cX10_lay 38 = .ok (.getfield 14, 3) := by decide +kernel
theorem dX10_lay_41 : decode cX10_lay 41 = .ok (.invokevirtual 170, 3) := by decide +kernel
theorem dX10_lay_44 : decode cX10_lay 44 = .ok (.iconst 0, 1) := by decide +kernel
theorem dX10_lay_45 : decode cX10_lay 45 = .ok (.istore 5, 2) := by decide +kernel
theorem dX10_lay_47 : decode cX10_lay 47 = .ok (.iload 5, 2) := by decide +kernel
theorem dX10_lay_49 : decode cX10_lay 49 = .ok (.aload_n 3, 1) := by decide +kernel
theorem dX10_lay_50 : decode cX10_lay 50 = .ok (.getfield 286, 3) := by decide +kernel
theorem dX10_lay_53 : decode cX10_lay 53 = .ok (.if_icmp .ge 27, 3) := by decide +kernel
theorem dX10_lay_56 : decode cX10_lay 56 = .ok (.aload_n 0, 1) := by decide +kernel
theorem dX10_lay_57 : decode cX10_lay 57 = .ok (.iload 5, 2) := by decide +kernel
theorem dX10_lay_59 : decode cX10_lay 59 = .ok (.iload_n 2, 1) := by decide +kernel
theorem dX10_lay_60 : decode cX10_lay 60 = .ok (.invokevirtual 287, 3) := by decide +kernel
theorem dX10_lay_63 : decode cX10_lay 63 = .ok (.aload_n 3, 1) := by decide +kernel
theorem dX10_lay_64 : decode cX10_lay 64 = .ok (.invokevirtual 290, 3) := by decide +kernel
theorem dX10_lay_67 : decode cX10_lay 67 = .ok (.lcmp, 1) := by decide +kernel
theorem dX10_lay_68 : decode cX10_lay 68 = .ok (.ifCond .le 6, 3) := by decide +kernel
theorem dX10_lay_71 : decode cX10_lay 71 = .ok (.bipush (-16), 2) := by decide +kernel
theorem dX10_lay_73 : decode cX10_lay 73 = .ok (.ireturn, 1) := by decide +kernel
theorem dX10_lay_74 : decode cX10_lay 74 = .ok (.iinc 5 1, 3) := by decide +kernel
theorem dX10_lay_77 : decode cX10_lay 77 = .ok (.goto (-30), 3) := by decide +kernel
theorem dX10_lay_80 : decode cX10_lay 80 = .ok (.iconst 0, 1) := by decide +kernel
theorem dX10_lay_81 : decode cX10_lay 81 = .ok (.istore 5, 2) := by decide +kernel
theorem dX10_lay_83 : decode cX10_lay 83 = .ok (.iload 5, 2) := by decide +kernel
theorem dX10_lay_85 : decode cX10_lay 85 = .ok (.aload_n 3, 1) := by decide +kernel
theorem dX10_lay_86 : decode cX10_lay 86 = .ok (.getfield 286, 3) := by decide +kernel
theorem dX10_lay_89 : decode cX10_lay 89 = .ok (.if_icmp .ge 30, 3) := by decide +kernel
theorem dX10_lay_92 : decode cX10_lay 92 = .ok (.iload 5, 2) := by decide +kernel
theorem dX10_lay_94 : decode cX10_lay 94 = .ok (.bipush 60, 2) := by decide +kernel
theorem dX10_lay_96 : decode cX10_lay 96 = .ok (.if_icmp .ge 23, 3) := by decide +kernel
theorem dX10_lay_99 : decode cX10_lay 99 = .ok (.aload_n 3, 1) := by decide +kernel
theorem dX10_lay_100 : decode cX10_lay 100 = .ok (.getfield 271, 3) := by decide +kernel
theorem dX10_lay_103 : decode cX10_lay 103 = .ok (.iload 5, 2) := by decide +kernel
theorem dX10_lay_105 : decode cX10_lay 105 = .ok (.aload_n 0, 1) := by decide +kernel
theorem dX10_lay_106 : decode cX10_lay 106 = .ok (.iload 5, 2) := by decide +kernel
theorem dX10_lay_108 : decode cX10_lay 108 = .ok (.iload_n 2, 1) := by decide +kernel
theorem dX10_lay_109 : decode cX10_lay 109 = .ok (.invokevirtual 287, 3) := by decide +kernel
theorem dX10_lay_112 : decode cX10_lay 112 = .ok (.lastore, 1) := by decide +kernel
theorem dX10_lay_113 : decode cX10_lay 113 = .ok (.iinc 5 1, 3) := by decide +kernel
theorem dX10_lay_116 : decode cX10_lay 116 = .ok (.goto (-33), 3) := by decide +kernel
theorem dX10_lay_119 : decode cX10_lay 119 = .ok (.aload_n 3, 1) := by decide +kernel
theorem dX10_lay_120 : decode cX10_lay 120 = .ok (.getfield 286, 3) := by decide +kernel
theorem dX10_lay_123 : decode cX10_lay 123 = .ok (.ireturn, 1) := by decide +kernel
theorem dX10_check_0 : decode cX10_check 0 = .ok (.aload_n 0, 1) := by decide +kernel
theorem dX10_check_1 : decode cX10_check 1 = .ok (.iload_n 1, 1) := by decide +kernel
theorem dX10_check_2 : decode cX10_check 2 = .ok (.invokevirtual 257, 3) := by decide +kernel
theorem dX10_check_5 : decode cX10_check 5 = .ok (.astore_n 3, 1) := by decide +kernel
theorem dX10_check_6 : decode cX10_check 6 = .ok (.aload_n 3, 1) := by decide +kernel
theorem dX10_check_7 : decode cX10_check 7 = .ok (.iload_n 2, 1) := by decide +kernel
theorem dX10_check_8 : decode cX10_check 8 = .ok (.invokestatic 278, 3) := by decide +kernel
theorem dX10_check_11 : decode cX10_check 11 = .ok (.istore 4, 2) := by decide +kernel
theorem dX10_check_13 : decode cX10_check 13 = .ok (.aload_n 3, 1) := by decide +kernel
theorem dX10_check_14 : decode cX10_check 14 = .ok (.ifnull 8, 3) := by decide +kernel
theorem dX10_check_17 : decode cX10_check 17 = .ok (.iload 4, 2) := by decide +kernel
theorem dX10_check_19 : decode cX10_check 19 = .ok (.ifCond .eq 6, 3) := by decide +kernel
theorem dX10_check_22 : decode cX10_check 22 = .ok (.iload 4, 2) := by decide +kernel
theorem dX10_check_24 : decode cX10_check 24 = .ok (.ireturn, 1) := by decide +kernel
theorem dX10_check_25 : decode cX10_check 25 = .ok (.aload_n 0, 1) := by decide +kernel
theorem dX10_check_26 : decode cX10_check 26 = .ok (.getfield 59, 3) := by decide +kernel
theorem dX10_check_29 : decode cX10_check 29 = .ok (.iload_n 2, 1) := by decide +kernel
theorem dX10_check_30 : decode cX10_check 30 = .ok (.iconst 1, 1) := by decide +kernel
theorem dX10_check_31 : decode cX10_check 31 = .ok (.isub, 1) := by decide +kernel
theorem dX10_check_32 : decode cX10_check 32 = .ok (.aload_n 3, 1) := by decide +kernel
theorem dX10_check_33 : decode cX10_check 33 = .ok (.iload_n 2, 1) := by decide +kernel
theorem dX10_check_34 : decode cX10_check 34 = .ok (.invokevirtual 282, 3) := by decide +kernel
theorem dX10_check_37 : decode cX10_check 37 = .ok (.aload_n 0, 1) := by decide +kernel
theorem dX10_check_38 : decode cX10_check 38 = .ok (.getfield 14, 3) := by decide +kernel
theorem dX10_check_41 : decode cX10_check 41 = .ok (.invokevirtual 170, 3) := by decide +kernel
theorem dX10_check_44 : decode cX10_check 44 = .ok (.iconst 0, 1) := by decide +kernel
theorem dX10_check_45 : decode cX10_check 45 = .ok (.istore 5, 2) := by decide +kernel
theorem dX10_check_47 : decode cX10_check 47 = .ok (.iload 5, 2) := by decide +kernel
theorem dX10_check_49 : decode cX10_check 49 = .ok (.aload_n 3, 1) := by decide +kernel
theorem dX10_check_50 : decode cX10_check 50 = .ok (.getfield 286, 3) := by decide +kernel
theorem dX10_check_53 : decode cX10_check 53 = .ok (.if_icmp .ge 37, 3) := by decide +kernel
theorem dX10_check_56 : decode cX10_check 56 = .ok (.iload 5, 2) := by decide +kernel
theorem dX10_check_58 : decode cX10_check 58 = .ok (.bipush 60, 2) := by decide +kernel
theorem dX10_check_60 : decode cX10_check 60 = .ok (.if_icmp .ge 30, 3) := by decide +kernel
theorem dX10_check_63 : decode cX10_check 63 = .ok (.aload_n 3, 1) := by decide +kernel
theorem dX10_check_64 : decode cX10_check 64 = .ok (.getfield 271, 3) := by decide +kernel
theorem dX10_check_67 : decode cX10_check 67 = .ok (.iload 5, 2) := by decide +kernel
theorem dX10_check_69 : decode cX10_check 69 = .ok (.laload, 1) := by decide +kernel
theorem dX10_check_70 : decode cX10_check 70 = .ok (.aload_n 0, 1) := by decide +kernel
theorem dX10_check_71 : decode cX10_check 71 = .ok (.iload 5, 2) := by decide +kernel
theorem dX10_check_73 : decode cX10_check 73 = .ok (.iload_n 2, 1) := by decide +kernel
theorem dX10_check_74 : decode cX10_check 74 = .ok (.invokevirtual 287, 3) := by decide +kernel
theorem dX10_check_77 : decode cX10_check 77 = .ok (.lcmp, 1) := by decide +kernel
theorem dX10_check_78 : decode cX10_check 78 = .ok (.ifCond .eq 6, 3) := by decide +kernel
theorem dX10_check_81 : decode cX10_check 81 = .ok (.iload 5, 2) := by decide +kernel
theorem dX10_check_83 : decode cX10_check 83 = .ok (.ireturn, 1) := by decide +kernel
theorem dX10_check_84 : decode cX10_check 84 = .ok (.iinc 5 1, 3) := by decide +kernel
theorem dX10_check_87 : decode cX10_check 87 = .ok (.goto (-40), 3) := by decide +kernel
theorem dX10_check_90 : decode cX10_check 90 = .ok (.bipush (-3), 2) := by decide +kernel
theorem dX10_check_92 : decode cX10_check 92 = .ok (.ireturn, 1) := by decide +kernel
theorem dX10_more_0 : decode cX10_more 0 = .ok (.iload_n 3, 1) := by decide +kernel
theorem dX10_more_1 : decode cX10_more 1 = .ok (.ifCond .lt 8, 3) := by decide +kernel
theorem dX10_more_4 : decode cX10_more 4 = .ok (.iload_n 3, 1) := by decide +kernel
theorem dX10_more_5 : decode cX10_more 5 = .ok (.iconst 1, 1) := by decide +kernel
theorem dX10_more_6 : decode cX10_more 6 = .ok (.if_icmp .le 5, 3) := by decide +kernel
theorem dX10_more_9 : decode cX10_more 9 = .ok (.iconst (-1), 1) := by decide +kernel
theorem dX10_more_10 : decode cX10_more 10 = .ok (.ireturn, 1) := by decide +kernel
theorem dX10_more_11 : decode cX10_more 11 = .ok (.aload_n 0, 1) := by decide +kernel
theorem dX10_more_12 : decode cX10_more 12 = .ok (.iload_n 1, 1) := by decide +kernel
theorem dX10_more_13 : decode cX10_more 13 = .ok (.invokevirtual 257, 3) := by decide +kernel
theorem dX10_more_16 : decode cX10_more 16 = .ok (.astore 4, 2) := by decide +kernel
theorem dX10_more_18 : decode cX10_more 18 = .ok (.aload 4, 2) := by decide +kernel
theorem dX10_more_20 : decode cX10_more 20 = .ok (.iload_n 2, 1) := by decide +kernel
theorem dX10_more_21 : decode cX10_more 21 = .ok (.invokestatic 278, 3) := by decide +kernel
theorem dX10_more_24 : decode cX10_more 24 = .ok (.istore 5, 2) := by decide +kernel
theorem dX10_more_26 : decode cX10_more 26 = .ok (.aload 4, 2) := by decide +kernel
theorem dX10_more_28 : decode cX10_more 28 = .ok (.ifnull 8, 3) := by decide +kernel
theorem dX10_more_31 : decode cX10_more 31 = .ok (.iload 5, 2) := by decide +kernel
theorem dX10_more_33 : decode cX10_more 33 = .ok (.ifCond .eq 6, 3) := by decide +kernel
theorem dX10_more_36 : decode cX10_more 36 = .ok (.iload 5, 2) := by decide +kernel
theorem dX10_more_38 : decode cX10_more 38 = .ok (.ireturn, 1) := by decide +kernel
theorem dX10_more_39 : decode cX10_more 39 = .ok (.aload_n 0, 1) := by decide +kernel
theorem dX10_more_40 : decode cX10_more 40 = .ok (.getfield 52, 3) := by decide +kernel
theorem dX10_more_43 : decode cX10_more 43 = .ok (.iload_n 2, 1) := by decide +kernel
theorem dX10_more_44 : decode cX10_more 44 = .ok (.iconst 1, 1) := by decide +kernel
theorem dX10_more_45 : decode cX10_more 45 = .ok (.isub, 1) := by decide +kernel
theorem dX10_more_46 : decode cX10_more 46 = .ok (.aload 4, 2) := by decide +kernel
theorem dX10_more_48 : decode cX10_more 48 = .ok (.iload_n 2, 1) := by decide +kernel
theorem dX10_more_49 : decode cX10_more 49 = .ok (.invokevirtual 282, 3) := by decide +kernel
theorem dX10_more_52 : decode cX10_more 52 = .ok (.aload_n 0, 1) := by decide +kernel
theorem dX10_more_53 : decode cX10_more 53 = .ok (.getfield 14, 3) := by decide +kernel
theorem dX10_more_56 : decode cX10_more 56 = .ok (.invokevirtual 178, 3) := by decide +kernel
theorem dX10_more_59 : decode cX10_more 59 = .ok (.iconst 0, 1) := by decide +kernel
theorem dX10_more_60 : decode cX10_more 60 = .ok (.istore 6, 2) := by decide +kernel
theorem dX10_more_62 : decode cX10_more 62 = .ok (.bipush (-3), 2) := by decide +kernel
theorem dX10_more_64 : decode cX10_more 64 = .ok (.istore 7, 2) := by decide +kernel
theorem dX10_more_66 : decode cX10_more 66 = .ok (.iconst 0, 1) := by decide +kernel
theorem dX10_more_67 : decode cX10_more 67 = .ok (.istore 8, 2) := by decide +kernel
theorem dX10_more_69 : decode cX10_more 69 = .ok (.iload 8, 2) := by decide +kernel
theorem dX10_more_71 : decode cX10_more 71 = .ok (.iconst 4, 1) := by decide +kernel
theorem dX10_more_72 : decode cX10_more 72 = .ok (.if_icmp .gt 72, 3) := by decide +kernel
theorem dX10_more_75 : decode cX10_more 75 = .ok (.iconst 0, 1) := by decide +kernel
theorem dX10_more_76 : decode cX10_more 76 = .ok (.istore 9, 2) := by decide +kernel
theorem dX10_more_78 : decode cX10_more 78 = .ok (.iload 9, 2) := by decide +kernel
theorem dX10_more_80 : decode cX10_more 80 = .ok (.iconst 4, 1) := by decide +kernel
theorem dX10_more_81 : decode cX10_more 81 = .ok (.if_icmp .gt 57, 3) := by decide +kernel
theorem dX10_more_84 : decode cX10_more 84 = .ok (.iload 8, 2) := by decide +kernel
theorem dX10_more_86 : decode cX10_more 86 = .ok (.iload 9, 2) := by decide +kernel
theorem dX10_more_88 : decode cX10_more 88 = .ok (.invokestatic 95, 3) := by decide +kernel
theorem dX10_more_91 : decode cX10_more 91 = .ok (.ifCond .eq 41, 3) := by decide +kernel
theorem dX10_more_94 : decode cX10_more 94 = .ok (.aload_n 0, 1) := by decide +kernel
theorem dX10_more_95 : decode cX10_more 95 = .ok (.aload 4, 2) := by decide +kernel
theorem dX10_more_97 : decode cX10_more 97 = .ok (.iload_n 2, 1) := by decide +kernel
theorem dX10_more_98 : decode cX10_more 98 = .ok (.iload 8, 2) := by decide +kernel
theorem dX10_more_100 : decode cX10_more 100 = .ok (.iload 9, 2) := by decide +kernel
theorem dX10_more_102 : decode cX10_more 102 = .ok (.invokevirtual 294, 3) := by decide +kernel
theorem dX10_more_105 : decode cX10_more 105 = .ok (.ifCond .eq 27, 3) := by decide +kernel
theorem dX10_more_108 : decode cX10_more 108 = .ok (.iinc 6 1, 3) := by decide +kernel
theorem dX10_more_111 : decode cX10_more 111 = .ok (.iload 6, 2) := by decide +kernel
theorem dX10_more_113 : decode cX10_more 113 = .ok (.iconst 1, 1) := by decide +kernel
theorem dX10_more_114 : decode cX10_more 114 = .ok (.if_icmp .ne 14, 3) := by decide +kernel
theorem dX10_more_117 : decode cX10_more 117 = .ok (.bipush 10, 2) := by decide +kernel
theorem dX10_more_119 : decode cX10_more 119 = .ok (.iload 8, 2) := by decide +kernel
theorem dX10_more_121 : decode cX10_more 121 = .ok (.imul, 1) := by decide +kernel
theorem dX10_more_122 : decode cX10_more 122 = .ok (.iload 9, 2) := by decide +kernel
theorem dX10_more_124 : decode cX10_more 124 = .ok (.iadd, 1) := by decide +kernel
theorem dX10_more_125 : decode cX10_more 125 = .ok (.goto 5, 3) := by decide +kernel
theorem dX10_more_128 : decode cX10_more 128 = .ok (.iload 7, 2) := by decide +kernel
theorem dX10_more_130 : decode cX10_more 130 = .ok (.istore 7, 2) := by decide +kernel
theorem dX10_more_132 : decode cX10_more 132 = .ok (.iinc 9 1, 3) := by decide +kernel
theorem dX10_more_135 : decode cX10_more 135 = .ok (.goto (-57), 3) := by decide +kernel
theorem dX10_more_138 : decode cX10_more 138 = .ok (.iinc 8 1, 3) := by decide +kernel
theorem dX10_more_141 : decode cX10_more 141 = .ok (.goto (-72), 3) := by decide +kernel
theorem dX10_more_144 : decode cX10_more 144 = .ok (.iload_n 3, 1) := by decide +kernel
theorem dX10_more_145 : decode cX10_more 145 = .ok (.ifCond .ne 8, 3) := by decide +kernel
theorem dX10_more_148 : decode cX10_more 148 = .ok (.iload 6, 2) := by decide +kernel
theorem dX10_more_150 : decode cX10_more 150 = .ok (.goto 5, 3) := by decide +kernel
theorem dX10_more_153 : decode cX10_more 153 = .ok (.iload 7, 2) := by decide +kernel
theorem dX10_more_155 : decode cX10_more 155 = .ok (.ireturn, 1) := by decide +kernel
theorem dX10_seed_0 : decode cX10_seed 0 = .ok (.aload_n 0, 1) := by decide +kernel
theorem dX10_seed_1 : decode cX10_seed 1 = .ok (.getfield 91, 3) := by decide +kernel
theorem dX10_seed_4 : decode cX10_seed 4 = .ok (.istore_n 2, 1) := by decide +kernel
theorem dX10_seed_5 : decode cX10_seed 5 = .ok (.aload_n 0, 1) := by decide +kernel
theorem dX10_seed_6 : decode cX10_seed 6 = .ok (.iload_n 1, 1) := by decide +kernel
theorem dX10_seed_7 : decode cX10_seed 7 = .ok (.putfield 91, 3) := by decide +kernel
theorem dX10_seed_10 : decode cX10_seed 10 = .ok (.iload_n 2, 1) := by decide +kernel
theorem dX10_seed_11 : decode cX10_seed 11 = .ok (.ireturn, 1) := by decide +kernel
theorem dX10_lot_0 : decode cX10_lot 0 = .ok (.iload_n 1, 1) := by decide +kernel
theorem dX10_lot_1 : decode cX10_lot 1 = .ok (.iconst 1, 1) := by decide +kernel
theorem dX10_lot_2 : decode cX10_lot 2 = .ok (.if_icmp .lt 9, 3) := by decide +kernel
theorem dX10_lot_5 : decode cX10_lot 5 = .ok (.iload_n 1, 1) := by decide +kernel
theorem dX10_lot_6 : decode cX10_lot 6 = .ok (.bipush 6, 2) := by decide +kernel
theorem dX10_lot_8 : decode cX10_lot 8 = .ok (.if_icmp .le 5, 3) := by decide +kernel
theorem dX10_lot_11 : decode cX10_lot 11 = .ok (.iconst (-1), 1) := by decide +kernel
theorem dX10_lot_12 : decode cX10_lot 12 = .ok (.ireturn, 1) := by decide +kernel
theorem dX10_lot_13 : decode cX10_lot 13 = .ok (.iload_n 1, 1) := by decide +kernel
theorem dX10_lot_14 : decode cX10_lot 14 = .ok (.bipush 6, 2) := by decide +kernel
theorem dX10_lot_16 : decode cX10_lot 16 = .ok (.aload_n 0, 1) := by decide +kernel
theorem dX10_lot_17 : decode cX10_lot 17 = .ok (.getfield 14, 3) := by decide +kernel
theorem dX10_lot_20 : decode cX10_lot 20 = .ok (.getfield 103, 3) := by decide +kernel
theorem dX10_lot_23 : decode cX10_lot 23 = .ok (.isub, 1) := by decide +kernel
theorem dX10_lot_24 : decode cX10_lot 24 = .ok (.invokestatic 298, 3) := by decide +kernel
theorem dX10_lot_27 : decode cX10_lot 27 = .ok (.istore_n 2, 1) := by decide +kernel
theorem dX10_lot_28 : decode cX10_lot 28 = .ok (.iconst 0, 1) := by decide +kernel
theorem dX10_lot_29 : decode cX10_lot 29 = .ok (.istore_n 3, 1) := by decide +kernel
theorem dX10_lot_30 : decode cX10_lot 30 = .ok (.iload_n 3, 1) := by decide +kernel
theorem dX10_lot_31 : decode cX10_lot 31 = .ok (.iload_n 2, 1) := by decide +kernel
theorem dX10_lot_32 : decode cX10_lot 32 = .ok (.if_icmp .ge 54, 3) := by decide +kernel
theorem dX10_lot_35 : decode cX10_lot 35 = .ok (.aload_n 0, 1) := by decide +kernel
theorem dX10_lot_36 : decode cX10_lot 36 = .ok (.invokevirtual 303, 3) := by decide +kernel
theorem dX10_lot_39 : decode cX10_lot 39 = .ok (.iconst 5, 1) := by decide +kernel
theorem dX10_lot_40 : decode cX10_lot 40 = .ok (.irem, 1) := by decide +kernel
theorem dX10_lot_41 : decode cX10_lot 41 = .ok (.istore 4, 2) := by decide +kernel
theorem dX10_lot_43 : decode cX10_lot 43 = .ok (.aload_n 0, 1) := by decide +kernel
theorem dX10_lot_44 : decode cX10_lot 44 = .ok (.invokevirtual 303, 3) := by decide +kernel
theorem dX10_lot_47 : decode cX10_lot 47 = .ok (.iconst 5, 1) := by decide +kernel
theorem dX10_lot_48 : decode cX10_lot 48 = .ok (.irem, 1) := by decide +kernel
theorem dX10_lot_49 : decode cX10_lot 49 = .ok (.istore 5, 2) := by decide +kernel
theorem dX10_lot_51 : decode cX10_lot 51 = .ok (.iload 4, 2) := by decide +kernel
theorem dX10_lot_53 : decode cX10_lot 53 = .ok (.ifCond .ne 18, 3) := by decide +kernel
theorem dX10_lot_56 : decode cX10_lot 56 = .ok (.iload 5, 2) := by decide +kernel
theorem dX10_lot_58 : decode cX10_lot 58 = .ok (.ifCond .ne 13, 3) := by decide +kernel
theorem dX10_lot_61 : decode cX10_lot 61 = .ok (.aload_n 0, 1) := by decide +kernel
theorem dX10_lot_62 : decode cX10_lot 62 = .ok (.iconst 1, 1) := by decide +kernel
theorem dX10_lot_63 : decode cX10_lot 63 = .ok (.iconst 1, 1) := by decide +kernel
theorem dX10_lot_64 : decode cX10_lot 64 = .ok (.invokevirtual 99, 3) := by decide +kernel
theorem dX10_lot_67 : decode cX10_lot 67 = .ok (.pop, 1) := by decide +kernel
theorem dX10_lot_68 : decode cX10_lot 68 = .ok (.goto 12, 3) := by decide +kernel
theorem dX10_lot_71 : decode cX10_lot 71 = .ok (.aload_n 0, 1) := by decide +kernel
theorem dX10_lot_72 : decode cX10_lot 72 = .ok (.iload 4, 2) := by decide +kernel
theorem dX10_lot_74 : decode cX10_lot 74 = .ok (.iload 5, 2) := by decide +kernel
theorem dX10_lot_76 : decode cX10_lot 76 = .ok (.invokevirtual 99, 3) := by decide +kernel
theorem dX10_lot_79 : decode cX10_lot 79 = .ok (.pop, 1) := by decide +kernel
theorem dX10_lot_80 : decode cX10_lot 80 = .ok (.iinc 3 1, 3) := by decide +kernel
theorem dX10_lot_83 : decode cX10_lot 83 = .ok (.goto (-53), 3) := by decide +kernel
theorem dX10_lot_86 : decode cX10_lot 86 = .ok (.iload_n 2, 1) := by decide +kernel
theorem dX10_lot_87 : decode cX10_lot 87 = .ok (.ireturn, 1) := by decide +kernel
theorem dX10_many_0 : decode cX10_many 0 = .ok (.iload_n 1, 1) := by decide +kernel
theorem dX10_many_1 : decode cX10_many 1 = .ok (.tableswitch 95 0 5 #[39, 47, 55, 63, 71, 79], 39) := by decide +kernel
theorem dX10_many_40 : decode cX10_many 40 = .ok (.aload_n 0, 1) := by decide +kernel
theorem dX10_many_41 : decode cX10_many 41 = .ok (.getfield 14, 3) := by decide +kernel
theorem dX10_many_44 : decode cX10_many 44 = .ok (.getfield 103, 3) := by decide +kernel
theorem dX10_many_47 : decode cX10_many 47 = .ok (.ireturn, 1) := by decide +kernel
theorem dX10_many_48 : decode cX10_many 48 = .ok (.aload_n 0, 1) := by decide +kernel
theorem dX10_many_49 : decode cX10_many 49 = .ok (.getfield 45, 3) := by decide +kernel
theorem dX10_many_52 : decode cX10_many 52 = .ok (.getfield 306, 3) := by decide +kernel
theorem dX10_many_55 : decode cX10_many 55 = .ok (.ireturn, 1) := by decide +kernel
theorem dX10_many_56 : decode cX10_many 56 = .ok (.aload_n 0, 1) := by decide +kernel
theorem dX10_many_57 : decode cX10_many 57 = .ok (.getfield 45, 3) := by decide +kernel
theorem dX10_many_60 : decode cX10_many 60 = .ok (.invokevirtual 213, 3) := by decide +kernel
theorem dX10_many_63 : decode cX10_many 63 = .ok (.ireturn, 1) := by decide +kernel
theorem dX10_many_64 : decode cX10_many 64 = .ok (.aload_n 0, 1) := by decide +kernel
theorem dX10_many_65 : decode cX10_many 65 = .ok (.getfield 24, 3) := by decide +kernel
theorem dX10_many_68 : decode cX10_many 68 = .ok (.getfield 161, 3) := by decide +kernel
theorem dX10_many_71 : decode cX10_many 71 = .ok (.ireturn, 1) := by decide +kernel
theorem dX10_many_72 : decode cX10_many 72 = .ok (.aload_n 0, 1) := by decide +kernel
theorem dX10_many_73 : decode cX10_many 73 = .ok (.getfield 31, 3) := by decide +kernel
theorem dX10_many_76 : decode cX10_many 76 = .ok (.getfield 138, 3) := by decide +kernel
theorem dX10_many_79 : decode cX10_many 79 = .ok (.ireturn, 1) := by decide +kernel
theorem dX10_many_80 : decode cX10_many 80 = .ok (.aload_n 0, 1) := by decide +kernel
theorem dX10_many_81 : decode cX10_many 81 = .ok (.getfield 45, 3) := by decide +kernel
theorem dX10_many_84 : decode cX10_many 84 = .ok (.invokevirtual 309, 3) := by decide +kernel
theorem dX10_many_87 : decode cX10_many 87 = .ok (.ifCond .eq 7, 3) := by decide +kernel
theorem dX10_many_90 : decode cX10_many 90 = .ok (.iconst 1, 1) := by decide +kernel
theorem dX10_many_91 : decode cX10_many 91 = .ok (.goto 4, 3) := by decide +kernel
theorem dX10_many_94 : decode cX10_many 94 = .ok (.iconst 0, 1) := by decide +kernel
theorem dX10_many_95 : decode cX10_many 95 = .ok (.ireturn, 1) := by decide +kernel
theorem dX10_many_96 : decode cX10_many 96 = .ok (.iconst (-1), 1) := by decide +kernel
theorem dX10_many_97 : decode cX10_many 97 = .ok (.ireturn, 1) := by decide +kernel
theorem dX10_keep_0 : decode cX10_keep 0 = .ok (.aload_n 0, 1) := by decide +kernel
theorem dX10_keep_1 : decode cX10_keep 1 = .ok (.getfield 18, 3) := by decide +kernel
theorem dX10_keep_4 : decode cX10_keep 4 = .ok (.aload_n 0, 1) := by decide +kernel
theorem dX10_keep_5 : decode cX10_keep 5 = .ok (.getfield 14, 3) := by decide +kernel
theorem dX10_keep_8 : decode cX10_keep 8 = .ok (.invokevirtual 313, 3) := by decide +kernel
theorem dX10_keep_11 : decode cX10_keep 11 = .ok (.aload_n 0, 1) := by decide +kernel
theorem dX10_keep_12 : decode cX10_keep 12 = .ok (.aload_n 0, 1) := by decide +kernel
theorem dX10_keep_13 : decode cX10_keep 13 = .ok (.getfield 91, 3) := by decide +kernel
theorem dX10_keep_16 : decode cX10_keep 16 = .ok (.putfield 87, 3) := by decide +kernel
theorem dX10_keep_19 : decode cX10_keep 19 = .ok (.aload_n 0, 1) := by decide +kernel
theorem dX10_keep_20 : decode cX10_keep 20 = .ok (.iconst 1, 1) := by decide +kernel
theorem dX10_keep_21 : decode cX10_keep 21 = .ok (.putfield 83, 3) := by decide +kernel
theorem dX10_keep_24 : decode cX10_keep 24 = .ok (.iconst 1, 1) := by decide +kernel
theorem dX10_keep_25 : decode cX10_keep 25 = .ok (.ireturn, 1) := by decide +kernel
theorem dX10_again_0 : decode cX10_again 0 = .ok (.aload_n 0, 1) := by decide +kernel
theorem dX10_again_1 : decode cX10_again 1 = .ok (.getfield 83, 3) := by decide +kernel
theorem dX10_again_4 : decode cX10_again 4 = .ok (.ifCond .ne 6, 3) := by decide +kernel
theorem dX10_again_7 : decode cX10_again 7 = .ok (.bipush (-3), 2) := by decide +kernel
theorem dX10_again_9 : decode cX10_again 9 = .ok (.ireturn, 1) := by decide +kernel
theorem dX10_again_10 : decode cX10_again 10 = .ok (.aload_n 0, 1) := by decide +kernel
theorem dX10_again_11 : decode cX10_again 11 = .ok (.getfield 14, 3) := by decide +kernel
theorem dX10_again_14 : decode cX10_again 14 = .ok (.aload_n 0, 1) := by decide +kernel
theorem dX10_again_15 : decode cX10_again 15 = .ok (.getfield 18, 3) := by decide +kernel
theorem dX10_again_18 : decode cX10_again 18 = .ok (.invokevirtual 313, 3) := by decide +kernel
theorem dX10_again_21 : decode cX10_again 21 = .ok (.aload_n 0, 1) := by decide +kernel
theorem dX10_again_22 : decode cX10_again 22 = .ok (.aload_n 0, 1) := by decide +kernel
theorem dX10_again_23 : decode cX10_again 23 = .ok (.getfield 87, 3) := by decide +kernel
theorem dX10_again_26 : decode cX10_again 26 = .ok (.putfield 91, 3) := by decide +kernel
theorem dX10_again_29 : decode cX10_again 29 = .ok (.aload_n 0, 1) := by decide +kernel
theorem dX10_again_30 : decode cX10_again 30 = .ok (.getfield 24, 3) := by decide +kernel
theorem dX10_again_33 : decode cX10_again 33 = .ok (.invokevirtual 315, 3) := by decide +kernel
theorem dX10_again_36 : decode cX10_again 36 = .ok (.aload_n 0, 1) := by decide +kernel
theorem dX10_again_37 : decode cX10_again 37 = .ok (.invokevirtual 110, 3) := by decide +kernel
theorem dX10_again_40 : decode cX10_again 40 = .ok (.aload_n 0, 1) := by decide +kernel
theorem dX10_again_41 : decode cX10_again 41 = .ok (.getfield 14, 3) := by decide +kernel
theorem dX10_again_44 : decode cX10_again 44 = .ok (.getfield 103, 3) := by decide +kernel
theorem dX10_again_47 : decode cX10_again 47 = .ok (.ireturn, 1) := by decide +kernel
theorem dX10_isStep_0 : decode cX10_isStep 0 = .ok (.iload_n 0, 1) := by decide +kernel
theorem dX10_isStep_1 : decode cX10_isStep 1 = .ok (.ifCond .lt 29, 3) := by decide +kernel
theorem dX10_isStep_4 : decode cX10_isStep 4 = .ok (.iload_n 0, 1) := by decide +kernel
theorem dX10_isStep_5 : decode cX10_isStep 5 = .ok (.iconst 4, 1) := by decide +kernel
theorem dX10_isStep_6 : decode cX10_isStep 6 = .ok (.if_icmp .gt 24, 3) := by decide +kernel
theorem dX10_isStep_9 : decode cX10_isStep 9 = .ok (.iload_n 1, 1) := by decide +kernel
theorem dX10_isStep_10 : decode cX10_isStep 10 = .ok (.ifCond .lt 20, 3) := by decide +kernel
theorem dX10_isStep_13 : decode cX10_isStep 13 = .ok (.iload_n 1, 1) := by decide +kernel
theorem dX10_isStep_14 : decode cX10_isStep 14 = .ok (.iconst 4, 1) := by decide +kernel
theorem dX10_isStep_15 : decode cX10_isStep 15 = .ok (.if_icmp .gt 15, 3) := by decide +kernel
theorem dX10_isStep_18 : decode cX10_isStep 18 = .ok (.iload_n 0, 1) := by decide +kernel
theorem dX10_isStep_19 : decode cX10_isStep 19 = .ok (.ifCond .gt 7, 3) := by decide +kernel
theorem dX10_isStep_22 : decode cX10_isStep 22 = .ok (.iload_n 1, 1) := by decide +kernel
theorem dX10_isStep_23 : decode cX10_isStep 23 = .ok (.ifCond .le 7, 3) := by decide +kernel
theorem dX10_isStep_26 : decode cX10_isStep 26 = .ok (.iconst 1, 1) := by decide +kernel
theorem dX10_isStep_27 : decode cX10_isStep 27 = .ok (.goto 4, 3) := by decide +kernel
theorem dX10_isStep_30 : decode cX10_isStep 30 = .ok (.iconst 0, 1) := by decide +kernel
theorem dX10_isStep_31 : decode cX10_isStep 31 = .ok (.ireturn, 1) := by decide +kernel
theorem dX10_isPoint_0 : decode cX10_isPoint 0 = .ok (.iload_n 0, 1) := by decide +kernel
theorem dX10_isPoint_1 : decode cX10_isPoint 1 = .ok (.ifCond .lt 21, 3) := by decide +kernel
theorem dX10_isPoint_4 : decode cX10_isPoint 4 = .ok (.iload_n 0, 1) := by decide +kernel
theorem dX10_isPoint_5 : decode cX10_isPoint 5 = .ok (.iload_n 2, 1) := by decide +kernel
theorem dX10_isPoint_6 : decode cX10_isPoint 6 = .ok (.if_icmp .gt 16, 3) := by decide +kernel
theorem dX10_isPoint_9 : decode cX10_isPoint 9 = .ok (.iload_n 1, 1) := by decide +kernel
theorem dX10_isPoint_10 : decode cX10_isPoint 10 = .ok (.ifCond .lt 12, 3) := by decide +kernel
theorem dX10_isPoint_13 : decode cX10_isPoint 13 = .ok (.iload_n 1, 1) := by decide +kernel
theorem dX10_isPoint_14 : decode cX10_isPoint 14 = .ok (.iload_n 2, 1) := by decide +kernel
theorem dX10_isPoint_15 : decode cX10_isPoint 15 = .ok (.if_icmp .gt 7, 3) := by decide +kernel
theorem dX10_isPoint_18 : decode cX10_isPoint 18 = .ok (.iconst 1, 1) := by decide +kernel
theorem dX10_isPoint_19 : decode cX10_isPoint 19 = .ok (.goto 4, 3) := by decide +kernel
theorem dX10_isPoint_22 : decode cX10_isPoint 22 = .ok (.iconst 0, 1) := by decide +kernel
theorem dX10_isPoint_23 : decode cX10_isPoint 23 = .ok (.ireturn, 1) := by decide +kernel
theorem dX10_isSpot_0 : decode cX10_isSpot 0 = .ok (.iload_n 0, 1) := by decide +kernel
theorem dX10_isSpot_1 : decode cX10_isSpot 1 = .ok (.bipush (-60), 2) := by decide +kernel
theorem dX10_isSpot_3 : decode cX10_isSpot 3 = .ok (.if_icmp .lt 25, 3) := by decide +kernel
theorem dX10_isSpot_6 : decode cX10_isSpot 6 = .ok (.iload_n 0, 1) := by decide +kernel
theorem dX10_isSpot_7 : decode cX10_isSpot 7 = .ok (.bipush 60, 2) := by decide +kernel
theorem dX10_isSpot_9 : decode cX10_isSpot 9 = .ok (.if_icmp .gt 19, 3) := by decide +kernel
theorem dX10_isSpot_12 : decode cX10_isSpot 12 = .ok (.iload_n 1, 1) := by decide +kernel
theorem dX10_isSpot_13 : decode cX10_isSpot 13 = .ok (.bipush (-60), 2) := by decide +kernel
theorem dX10_isSpot_15 : decode cX10_isSpot 15 = .ok (.if_icmp .lt 13, 3) := by decide +kernel
theorem dX10_isSpot_18 : decode cX10_isSpot 18 = .ok (.iload_n 1, 1) := by decide +kernel
theorem dX10_isSpot_19 : decode cX10_isSpot 19 = .ok (.bipush 60, 2) := by decide +kernel
theorem dX10_isSpot_21 : decode cX10_isSpot 21 = .ok (.if_icmp .gt 7, 3) := by decide +kernel
theorem dX10_isSpot_24 : decode cX10_isSpot 24 = .ok (.iconst 1, 1) := by decide +kernel
theorem dX10_isSpot_25 : decode cX10_isSpot 25 = .ok (.goto 4, 3) := by decide +kernel
theorem dX10_isSpot_28 : decode cX10_isSpot 28 = .ok (.iconst 0, 1) := by decide +kernel
theorem dX10_isSpot_29 : decode cX10_isSpot 29 = .ok (.ireturn, 1) := by decide +kernel
theorem dX10_comes_0 : decode cX10_comes 0 = .ok (.aload_n 0, 1) := by decide +kernel
theorem dX10_comes_1 : decode cX10_comes 1 = .ok (.getfield 14, 3) := by decide +kernel
theorem dX10_comes_4 : decode cX10_comes 4 = .ok (.getfield 103, 3) := by decide +kernel
theorem dX10_comes_7 : decode cX10_comes 7 = .ok (.bipush 6, 2) := by decide +kernel
theorem dX10_comes_9 : decode cX10_comes 9 = .ok (.if_icmp .lt 6, 3) := by decide +kernel
theorem dX10_comes_12 : decode cX10_comes 12 = .ok (.bipush (-2), 2) := by decide +kernel
theorem dX10_comes_14 : decode cX10_comes 14 = .ok (.ireturn, 1) := by decide +kernel
theorem dX10_comes_15 : decode cX10_comes 15 = .ok (.aload_n 0, 1) := by decide +kernel
theorem dX10_comes_16 : decode cX10_comes 16 = .ok (.getfield 24, 3) := by decide +kernel
theorem dX10_comes_19 : decode cX10_comes 19 = .ok (.aload_n 0, 1) := by decide +kernel
theorem dX10_comes_20 : decode cX10_comes 20 = .ok (.getfield 14, 3) := by decide +kernel
theorem dX10_comes_23 : decode cX10_comes 23 = .ok (.invokevirtual 106, 3) := by decide +kernel
theorem dX10_comes_26 : decode cX10_comes 26 = .ok (.aload_n 0, 1) := by decide +kernel
theorem dX10_comes_27 : decode cX10_comes 27 = .ok (.getfield 14, 3) := by decide +kernel
theorem dX10_comes_30 : decode cX10_comes 30 = .ok (.iload_n 1, 1) := by decide +kernel
theorem dX10_comes_31 : decode cX10_comes 31 = .ok (.iload_n 2, 1) := by decide +kernel
theorem dX10_comes_32 : decode cX10_comes 32 = .ok (.invokevirtual 318, 3) := by decide +kernel
theorem dX10_comes_35 : decode cX10_comes 35 = .ok (.aload_n 0, 1) := by decide +kernel
theorem dX10_comes_36 : decode cX10_comes 36 = .ok (.invokevirtual 110, 3) := by decide +kernel
theorem dX10_comes_39 : decode cX10_comes 39 = .ok (.aload_n 0, 1) := by decide +kernel
theorem dX10_comes_40 : decode cX10_comes 40 = .ok (.getfield 14, 3) := by decide +kernel
theorem dX10_comes_43 : decode cX10_comes 43 = .ok (.getfield 103, 3) := by decide +kernel
theorem dX10_comes_46 : decode cX10_comes 46 = .ok (.iconst 1, 1) := by decide +kernel
theorem dX10_comes_47 : decode cX10_comes 47 = .ok (.isub, 1) := by decide +kernel
theorem dX10_comes_48 : decode cX10_comes 48 = .ok (.ireturn, 1) := by decide +kernel
theorem dX10_partsChanged_0 : decode cX10_partsChanged 0 = .ok (.aload_n 0, 1) := by decide +kernel
theorem dX10_partsChanged_1 : decode cX10_partsChanged 1 = .ok (.getfield 45, 3) := by decide +kernel
theorem dX10_partsChanged_4 : decode cX10_partsChanged 4 = .ok (.aload_n 0, 1) := by decide +kernel
theorem dX10_partsChanged_5 : decode cX10_partsChanged 5 = .ok (.getfield 14, 3) := by decide +kernel
theorem dX10_partsChanged_8 : decode cX10_partsChanged 8 = .ok (.invokevirtual 321, 3) := by decide +kernel
theorem dX10_partsChanged_11 : decode cX10_partsChanged 11 = .ok (.aload_n 0, 1) := by decide +kernel
theorem dX10_partsChanged_12 : decode cX10_partsChanged 12 = .ok (.getfield 52, 3) := by decide +kernel
theorem dX10_partsChanged_15 : decode cX10_partsChanged 15 = .ok (.invokevirtual 324, 3) := by decide +kernel
theorem dX10_partsChanged_18 : decode cX10_partsChanged 18 = .ok (.aload_n 0, 1) := by decide +kernel
theorem dX10_partsChanged_19 : decode cX10_partsChanged 19 = .ok (.getfield 59, 3) := by decide +kernel
theorem dX10_partsChanged_22 : decode cX10_partsChanged 22 = .ok (.invokevirtual 325, 3) := by decide +kernel
theorem dX10_partsChanged_25 : decode cX10_partsChanged 25 = .ok (.return_, 1) := by decide +kernel
theorem dX10_hasFormula_0 : decode cX10_hasFormula 0 = .ok (.aload_n 0, 1) := by decide +kernel
theorem dX10_hasFormula_1 : decode cX10_hasFormula 1 = .ok (.getfield 45, 3) := by decide +kernel
theorem dX10_hasFormula_4 : decode cX10_hasFormula 4 = .ok (.invokevirtual 309, 3) := by decide +kernel
theorem dX10_hasFormula_7 : decode cX10_hasFormula 7 = .ok (.ifCond .eq 22, 3) := by decide +kernel
theorem dX10_hasFormula_10 : decode cX10_hasFormula 10 = .ok (.iload_n 1, 1) := by decide +kernel
theorem dX10_hasFormula_11 : decode cX10_hasFormula 11 = .ok (.ifCond .lt 18, 3) := by decide +kernel
theorem dX10_hasFormula_14 : decode cX10_hasFormula 14 = .ok (.iload_n 1, 1) := by decide +kernel
theorem dX10_hasFormula_15 : decode cX10_hasFormula 15 = .ok (.aload_n 0, 1) := by decide +kernel
theorem dX10_hasFormula_16 : decode cX10_hasFormula 16 = .ok (.getfield 45, 3) := by decide +kernel
theorem dX10_hasFormula_19 : decode cX10_hasFormula 19 = .ok (.invokevirtual 213, 3) := by decide +kernel
theorem dX10_hasFormula_22 : decode cX10_hasFormula 22 = .ok (.if_icmp .ge 7, 3) := by decide +kernel
theorem dX10_hasFormula_25 : decode cX10_hasFormula 25 = .ok (.iconst 1, 1) := by decide +kernel
theorem dX10_hasFormula_26 : decode cX10_hasFormula 26 = .ok (.goto 4, 3) := by decide +kernel
theorem dX10_hasFormula_29 : decode cX10_hasFormula 29 = .ok (.iconst 0, 1) := by decide +kernel
theorem dX10_hasFormula_30 : decode cX10_hasFormula 30 = .ok (.ireturn, 1) := by decide +kernel
theorem dX10_readyFormula_0 : decode cX10_readyFormula 0 = .ok (.aload_n 0, 1) := by decide +kernel
theorem dX10_readyFormula_1 : decode cX10_readyFormula 1 = .ok (.getfield 73, 3) := by decide +kernel
theorem dX10_readyFormula_4 : decode cX10_readyFormula 4 = .ok (.aload_n 0, 1) := by decide +kernel
theorem dX10_readyFormula_5 : decode cX10_readyFormula 5 = .ok (.getfield 45, 3) := by decide +kernel
theorem dX10_readyFormula_8 : decode cX10_readyFormula 8 = .ok (.iload_n 1, 1) := by decide +kernel
theorem dX10_readyFormula_9 : decode cX10_readyFormula 9 = .ok (.iload_n 2, 1) := by decide +kernel
theorem dX10_readyFormula_10 : decode cX10_readyFormula 10 = .ok (.iload_n 3, 1) := by decide +kernel
theorem dX10_readyFormula_11 : decode cX10_readyFormula 11 = .ok (.invokevirtual 226, 3) := by decide +kernel
theorem dX10_readyFormula_14 : decode cX10_readyFormula 14 = .ok (.aload_n 0, 1) := by decide +kernel
theorem dX10_readyFormula_15 : decode cX10_readyFormula 15 = .ok (.getfield 14, 3) := by decide +kernel
theorem dX10_readyFormula_18 : decode cX10_readyFormula 18 = .ok (.getfield 103, 3) := by decide +kernel
theorem dX10_readyFormula_21 : decode cX10_readyFormula 21 = .ok (.iconst 2, 1) := by decide +kernel
theorem dX10_readyFormula_22 : decode cX10_readyFormula 22 = .ok (.isub, 1) := by decide +kernel
theorem dX10_readyFormula_23 : decode cX10_readyFormula 23 = .ok (.istore 4, 2) := by decide +kernel
theorem dX10_readyFormula_25 : decode cX10_readyFormula 25 = .ok (.aload_n 0, 1) := by decide +kernel
theorem dX10_readyFormula_26 : decode cX10_readyFormula 26 = .ok (.getfield 52, 3) := by decide +kernel
theorem dX10_readyFormula_29 : decode cX10_readyFormula 29 = .ok (.aload_n 0, 1) := by decide +kernel
theorem dX10_readyFormula_30 : decode cX10_readyFormula 30 = .ok (.getfield 73, 3) := by decide +kernel
theorem dX10_readyFormula_33 : decode cX10_readyFormula 33 = .ok (.iload 4, 2) := by decide +kernel
theorem dX10_readyFormula_35 : decode cX10_readyFormula 35 = .ok (.invokevirtual 326, 3) := by decide +kernel
theorem dX10_readyFormula_38 : decode cX10_readyFormula 38 = .ok (.aload_n 0, 1) := by decide +kernel
theorem dX10_readyFormula_39 : decode cX10_readyFormula 39 = .ok (.getfield 73, 3) := by decide +kernel
theorem dX10_readyFormula_42 : decode cX10_readyFormula 42 = .ok (.iload 4, 2) := by decide +kernel
theorem dX10_readyFormula_44 : decode cX10_readyFormula 44 = .ok (.invokevirtual 329, 3) := by decide +kernel
theorem dX10_readyFormula_47 : decode cX10_readyFormula 47 = .ok (.aload_n 0, 1) := by decide +kernel
theorem dX10_readyFormula_48 : decode cX10_readyFormula 48 = .ok (.getfield 14, 3) := by decide +kernel
theorem dX10_readyFormula_51 : decode cX10_readyFormula 51 = .ok (.invokevirtual 178, 3) := by decide +kernel
theorem dX10_readyFormula_54 : decode cX10_readyFormula 54 = .ok (.return_, 1) := by decide +kernel
theorem dX10_sheetAt_0 : decode cX10_sheetAt 0 = .ok (.iload_n 1, 1) := by decide +kernel
theorem dX10_sheetAt_1 : decode cX10_sheetAt 1 = .ok (.ifCond .lt 17, 3) := by decide +kernel
theorem dX10_sheetAt_4 : decode cX10_sheetAt 4 = .ok (.iload_n 1, 1) := by decide +kernel
theorem dX10_sheetAt_5 : decode cX10_sheetAt 5 = .ok (.iconst 4, 1) := by decide +kernel
theorem dX10_sheetAt_6 : decode cX10_sheetAt 6 = .ok (.if_icmp .ge 12, 3) := by decide +kernel
theorem dX10_sheetAt_9 : decode cX10_sheetAt 9 = .ok (.aload_n 0, 1) := by decide +kernel
theorem dX10_sheetAt_10 : decode cX10_sheetAt 10 = .ok (.getfield 79, 3) := by decide +kernel
theorem dX10_sheetAt_13 : decode cX10_sheetAt 13 = .ok (.iload_n 1, 1) := by decide +kernel
theorem dX10_sheetAt_14 : decode cX10_sheetAt 14 = .ok (.aaload, 1) := by decide +kernel
theorem dX10_sheetAt_15 : decode cX10_sheetAt 15 = .ok (.goto 4, 3) := by decide +kernel
theorem dX10_sheetAt_18 : decode cX10_sheetAt 18 = .ok (.aconst_null, 1) := by decide +kernel
theorem dX10_sheetAt_19 : decode cX10_sheetAt 19 = .ok (.areturn, 1) := by decide +kernel
theorem dX10_tableRefusal_0 : decode cX10_tableRefusal 0 = .ok (.aload_n 0, 1) := by decide +kernel
theorem dX10_tableRefusal_1 : decode cX10_tableRefusal 1 = .ok (.ifnull 14, 3) := by decide +kernel
theorem dX10_tableRefusal_4 : decode cX10_tableRefusal 4 = .ok (.iload_n 1, 1) := by decide +kernel
theorem dX10_tableRefusal_5 : decode cX10_tableRefusal 5 = .ok (.iconst 1, 1) := by decide +kernel
theorem dX10_tableRefusal_6 : decode cX10_tableRefusal 6 = .ok (.if_icmp .lt 9, 3) := by decide +kernel
theorem dX10_tableRefusal_9 : decode cX10_tableRefusal 9 = .ok (.iload_n 1, 1) := by decide +kernel
theorem dX10_tableRefusal_10 : decode cX10_tableRefusal 10 = .ok (.bipush 10, 2) := by decide +kernel
theorem dX10_tableRefusal_12 : decode cX10_tableRefusal 12 = .ok (.if_icmp .le 5, 3) := by decide +kernel
theorem dX10_tableRefusal_15 : decode cX10_tableRefusal 15 = .ok (.iconst (-1), 1) := by decide +kernel
theorem dX10_tableRefusal_16 : decode cX10_tableRefusal 16 = .ok (.ireturn, 1) := by decide +kernel
theorem dX10_tableRefusal_17 : decode cX10_tableRefusal 17 = .ok (.aload_n 0, 1) := by decide +kernel
theorem dX10_tableRefusal_18 : decode cX10_tableRefusal 18 = .ok (.getfield 265, 3) := by decide +kernel
theorem dX10_tableRefusal_21 : decode cX10_tableRefusal 21 = .ok (.iconst (-1), 1) := by decide +kernel
theorem dX10_tableRefusal_22 : decode cX10_tableRefusal 22 = .ok (.if_icmp .ne 6, 3) := by decide +kernel
theorem dX10_tableRefusal_25 : decode cX10_tableRefusal 25 = .ok (.bipush (-11), 2) := by decide +kernel
theorem dX10_tableRefusal_27 : decode cX10_tableRefusal 27 = .ok (.ireturn, 1) := by decide +kernel
theorem dX10_tableRefusal_28 : decode cX10_tableRefusal 28 = .ok (.aload_n 0, 1) := by decide +kernel
theorem dX10_tableRefusal_29 : decode cX10_tableRefusal 29 = .ok (.getfield 265, 3) := by decide +kernel
theorem dX10_tableRefusal_32 : decode cX10_tableRefusal 32 = .ok (.iconst 2, 1) := by decide +kernel
theorem dX10_tableRefusal_33 : decode cX10_tableRefusal 33 = .ok (.if_icmp .ne 8, 3) := by decide +kernel
theorem dX10_tableRefusal_36 : decode cX10_tableRefusal 36 = .ok (.bipush (-13), 2) := by decide +kernel
theorem dX10_tableRefusal_38 : decode cX10_tableRefusal 38 = .ok (.goto 4, 3) := by decide +kernel
theorem dX10_tableRefusal_41 : decode cX10_tableRefusal 41 = .ok (.iconst 0, 1) := by decide +kernel
theorem dX10_tableRefusal_42 : decode cX10_tableRefusal 42 = .ok (.ireturn, 1) := by decide +kernel
theorem dX10_waysAtPlace_0 : decode cX10_waysAtPlace 0 = .ok (.iload_n 2, 1) := by decide +kernel
theorem dX10_waysAtPlace_1 : decode cX10_waysAtPlace 1 = .ok (.iconst 1, 1) := by decide +kernel
theorem dX10_waysAtPlace_2 : decode cX10_waysAtPlace 2 = .ok (.if_icmp .ge 7, 3) := by decide +kernel
theorem dX10_waysAtPlace_5 : decode cX10_waysAtPlace 5 = .ok (.lconst 0, 1) := by decide +kernel
theorem dX10_waysAtPlace_6 : decode cX10_waysAtPlace 6 = .ok (.goto 17, 3) := by decide +kernel
theorem dX10_waysAtPlace_9 : decode cX10_waysAtPlace 9 = .ok (.aload_n 0, 1) := by decide +kernel
theorem dX10_waysAtPlace_10 : decode cX10_waysAtPlace 10 = .ok (.getfield 59, 3) := by decide +kernel
theorem dX10_waysAtPlace_13 : decode cX10_waysAtPlace 13 = .ok (.iconst 0, 1) := by decide +kernel
theorem dX10_waysAtPlace_14 : decode cX10_waysAtPlace 14 = .ok (.iload_n 1, 1) := by decide +kernel
theorem dX10_waysAtPlace_15 : decode cX10_waysAtPlace 15 = .ok (.iload_n 2, 1) := by decide +kernel
theorem dX10_waysAtPlace_16 : decode cX10_waysAtPlace 16 = .ok (.irem, 1) := by decide +kernel
theorem dX10_waysAtPlace_17 : decode cX10_waysAtPlace 17 = .ok (.iload_n 1, 1) := by decide +kernel
theorem dX10_waysAtPlace_18 : decode cX10_waysAtPlace 18 = .ok (.iload_n 2, 1) := by decide +kernel
theorem dX10_waysAtPlace_19 : decode cX10_waysAtPlace 19 = .ok (.idiv, 1) := by decide +kernel
theorem dX10_waysAtPlace_20 : decode cX10_waysAtPlace 20 = .ok (.invokevirtual 174, 3) := by decide +kernel
theorem dX10_waysAtPlace_23 : decode cX10_waysAtPlace 23 = .ok (.lreturn, 1) := by decide +kernel
theorem dX10_isTableWith_0 : decode cX10_isTableWith 0 = .ok (.iload_n 2, 1) := by decide +kernel
theorem dX10_isTableWith_1 : decode cX10_isTableWith 1 = .ok (.iconst 1, 1) := by decide +kernel
theorem dX10_isTableWith_2 : decode cX10_isTableWith 2 = .ok (.if_icmp .ge 5, 3) := by decide +kernel
theorem dX10_isTableWith_5 : decode cX10_isTableWith 5 = .ok (.iconst 0, 1) := by decide +kernel
theorem dX10_isTableWith_6 : decode cX10_isTableWith 6 = .ok (.ireturn, 1) := by decide +kernel
theorem dX10_isTableWith_7 : decode cX10_isTableWith 7 = .ok (.iconst 0, 1) := by decide +kernel
theorem dX10_isTableWith_8 : decode cX10_isTableWith 8 = .ok (.istore 5, 2) := by decide +kernel
theorem dX10_isTableWith_10 : decode cX10_isTableWith 10 = .ok (.iload 5, 2) := by decide +kernel
theorem dX10_isTableWith_12 : decode cX10_isTableWith 12 = .ok (.aload_n 1, 1) := by decide +kernel
theorem dX10_isTableWith_13 : decode cX10_isTableWith 13 = .ok (.getfield 286, 3) := by decide +kernel
theorem dX10_isTableWith_16 : decode cX10_isTableWith 16 = .ok (.if_icmp .ge 47, 3) := by decide +kernel
theorem dX10_isTableWith_19 : decode cX10_isTableWith 19 = .ok (.iload 5, 2) := by decide +kernel
theorem dX10_isTableWith_21 : decode cX10_isTableWith 21 = .ok (.bipush 60, 2) := by decide +kernel
theorem dX10_isTableWith_23 : decode cX10_isTableWith 23 = .ok (.if_icmp .ge 40, 3) := by decide +kernel
theorem dX10_isTableWith_26 : decode cX10_isTableWith 26 = .ok (.aload_n 1, 1) := by decide +kernel
theorem dX10_isTableWith_27 : decode cX10_isTableWith 27 = .ok (.getfield 271, 3) := by decide +kernel
theorem dX10_isTableWith_30 : decode cX10_isTableWith 30 = .ok (.iload 5, 2) := by decide +kernel
theorem dX10_isTableWith_32 : decode cX10_isTableWith 32 = .ok (.laload, 1) := by decide +kernel
theorem dX10_isTableWith_33 : decode cX10_isTableWith 33 = .ok (.aload_n 0, 1) := by decide +kernel
theorem dX10_isTableWith_34 : decode cX10_isTableWith 34 = .ok (.getfield 52, 3) := by decide +kernel
theorem dX10_isTableWith_37 : decode cX10_isTableWith 37 = .ok (.iload 5, 2) := by decide +kernel
theorem dX10_isTableWith_39 : decode cX10_isTableWith 39 = .ok (.iload_n 2, 1) := by decide +kernel
theorem dX10_isTableWith_40 : decode cX10_isTableWith 40 = .ok (.irem, 1) := by decide +kernel
theorem dX10_isTableWith_41 : decode cX10_isTableWith 41 = .ok (.iload 5, 2) := by decide +kernel
theorem dX10_isTableWith_43 : decode cX10_isTableWith 43 = .ok (.iload_n 2, 1) := by decide +kernel
theorem dX10_isTableWith_44 : decode cX10_isTableWith 44 = .ok (.idiv, 1) := by decide +kernel
theorem dX10_isTableWith_45 : decode cX10_isTableWith 45 = .ok (.iload_n 3, 1) := by decide +kernel
theorem dX10_isTableWith_46 : decode cX10_isTableWith 46 = .ok (.iload 4, 2) := by decide +kernel
theorem dX10_isTableWith_48 : decode cX10_isTableWith 48 = .ok (.invokevirtual 332, 3) := by decide +kernel
theorem dX10_isTableWith_51 : decode cX10_isTableWith 51 = .ok (.lcmp, 1) := by decide +kernel
theorem dX10_isTableWith_52 : decode cX10_isTableWith 52 = .ok (.ifCond .eq 5, 3) := by decide +kernel
theorem dX10_isTableWith_55 : decode cX10_isTableWith 55 = .ok (.iconst 0, 1) := by decide +kernel
theorem dX10_isTableWith_56 : decode cX10_isTableWith 56 = .ok (.ireturn, 1) := by decide +kernel
theorem dX10_isTableWith_57 : decode cX10_isTableWith 57 = .ok (.iinc 5 1, 3) := by decide +kernel
theorem dX10_isTableWith_60 : decode cX10_isTableWith 60 = .ok (.goto (-50), 3) := by decide +kernel
theorem dX10_isTableWith_63 : decode cX10_isTableWith 63 = .ok (.iconst 1, 1) := by decide +kernel
theorem dX10_isTableWith_64 : decode cX10_isTableWith 64 = .ok (.ireturn, 1) := by decide +kernel
theorem dX10_drawn_0 : decode cX10_drawn 0 = .ok (.aload_n 0, 1) := by decide +kernel
theorem dX10_drawn_1 : decode cX10_drawn 1 = .ok (.aload_n 0, 1) := by decide +kernel
theorem dX10_drawn_2 : decode cX10_drawn 2 = .ok (.getfield 91, 3) := by decide +kernel
theorem dX10_drawn_5 : decode cX10_drawn 5 = .ok (.ldc_w 336, 3) := by decide +kernel
theorem dX10_drawn_8 : decode cX10_drawn 8 = .ok (.imul, 1) := by decide +kernel
theorem dX10_drawn_9 : decode cX10_drawn 9 = .ok (.sipush 12345, 3) := by decide +kernel
theorem dX10_drawn_12 : decode cX10_drawn 12 = .ok (.iadd, 1) := by decide +kernel
theorem dX10_drawn_13 : decode cX10_drawn 13 = .ok (.putfield 91, 3) := by decide +kernel
theorem dX10_drawn_16 : decode cX10_drawn 16 = .ok (.aload_n 0, 1) := by decide +kernel
theorem dX10_drawn_17 : decode cX10_drawn 17 = .ok (.getfield 91, 3) := by decide +kernel
theorem dX10_drawn_20 : decode cX10_drawn 20 = .ok (.bipush 16, 2) := by decide +kernel
theorem dX10_drawn_22 : decode cX10_drawn 22 = .ok (.iushr, 1) := by decide +kernel
theorem dX10_drawn_23 : decode cX10_drawn 23 = .ok (.ireturn, 1) := by decide +kernel
theorem dX11_init_0 : decode cX11_init 0 = .ok (.aload_n 0, 1) := by decide +kernel
theorem dX11_init_1 : decode cX11_init 1 = .ok (.invokespecial 3, 3) := by decide +kernel
theorem dX11_init_4 : decode cX11_init 4 = .ok (.aload_n 0, 1) := by decide +kernel
theorem dX11_init_5 : decode cX11_init 5 = .ok (.iconst 1, 1) := by decide +kernel
theorem dX11_init_6 : decode cX11_init 6 = .ok (.putfield 9, 3) := by decide +kernel
theorem dX11_init_9 : decode cX11_init 9 = .ok (.aload_n 0, 1) := by decide +kernel
theorem dX11_init_10 : decode cX11_init 10 = .ok (.bipush 6, 2) := by decide +kernel
theorem dX11_init_12 : decode cX11_init 12 = .ok (.newarray .int, 2) := by decide +kernel
theorem dX11_init_14 : decode cX11_init 14 = .ok (.putfield 15, 3) := by decide +kernel
theorem dX11_init_17 : decode cX11_init 17 = .ok (.aload_n 0, 1) := by decide +kernel
theorem dX11_init_18 : decode cX11_init 18 = .ok (.bipush 6, 2) := by decide +kernel
theorem dX11_init_20 : decode cX11_init 20 = .ok (.newarray .int, 2) := by decide +kernel
theorem dX11_init_22 : decode cX11_init 22 = .ok (.putfield 19, 3) := by decide +kernel
theorem dX11_init_25 : decode cX11_init 25 = .ok (.aload_n 0, 1) := by decide +kernel
theorem dX11_init_26 : decode cX11_init 26 = .ok (.bipush 6, 2) := by decide +kernel
theorem dX11_init_28 : decode cX11_init 28 = .ok (.newarray .int, 2) := by decide +kernel
theorem dX11_init_30 : decode cX11_init 30 = .ok (.putfield 22, 3) := by decide +kernel
theorem dX11_init_33 : decode cX11_init 33 = .ok (.aload_n 0, 1) := by decide +kernel
theorem dX11_init_34 : decode cX11_init 34 = .ok (.bipush 6, 2) := by decide +kernel
theorem dX11_init_36 : decode cX11_init 36 = .ok (.newarray .long, 2) := by decide +kernel
theorem dX11_init_38 : decode cX11_init 38 = .ok (.putfield 25, 3) := by decide +kernel
theorem dX11_init_41 : decode cX11_init 41 = .ok (.aload_n 0, 1) := by decide +kernel
theorem dX11_init_42 : decode cX11_init 42 = .ok (.bipush 6, 2) := by decide +kernel
theorem dX11_init_44 : decode cX11_init 44 = .ok (.newarray .int, 2) := by decide +kernel
theorem dX11_init_46 : decode cX11_init 46 = .ok (.putfield 29, 3) := by decide +kernel
theorem dX11_init_49 : decode cX11_init 49 = .ok (.aload_n 0, 1) := by decide +kernel
theorem dX11_init_50 : decode cX11_init 50 = .ok (.bipush 6, 2) := by decide +kernel
theorem dX11_init_52 : decode cX11_init 52 = .ok (.newarray .int, 2) := by decide +kernel
theorem dX11_init_54 : decode cX11_init 54 = .ok (.putfield 32, 3) := by decide +kernel
theorem dX11_init_57 : decode cX11_init 57 = .ok (.aload_n 0, 1) := by decide +kernel
theorem dX11_init_58 : decode cX11_init 58 = .ok (.bipush 6, 2) := by decide +kernel
theorem dX11_init_60 : decode cX11_init 60 = .ok (.newarray .int, 2) := by decide +kernel
theorem dX11_init_62 : decode cX11_init 62 = .ok (.putfield 35, 3) := by decide +kernel
theorem dX11_init_65 : decode cX11_init 65 = .ok (.aload_n 0, 1) := by decide +kernel
theorem dX11_init_66 : decode cX11_init 66 = .ok (.bipush 6, 2) := by decide +kernel
theorem dX11_init_68 : decode cX11_init 68 = .ok (.newarray .long, 2) := by decide +kernel
theorem dX11_init_70 : decode cX11_init 70 = .ok (.putfield 38, 3) := by decide +kernel
theorem dX11_init_73 : decode cX11_init 73 = .ok (.aload_n 0, 1) := by decide +kernel
theorem dX11_init_74 : decode cX11_init 74 = .ok (.bipush 30, 2) := by decide +kernel
theorem dX11_init_76 : decode cX11_init 76 = .ok (.newarray .int, 2) := by decide +kernel
theorem dX11_init_78 : decode cX11_init 78 = .ok (.putfield 41, 3) := by decide +kernel
theorem dX11_init_81 : decode cX11_init 81 = .ok (.aload_n 0, 1) := by decide +kernel
theorem dX11_init_82 : decode cX11_init 82 = .ok (.bipush 30, 2) := by decide +kernel
theorem dX11_init_84 : decode cX11_init 84 = .ok (.newarray .int, 2) := by decide +kernel
theorem dX11_init_86 : decode cX11_init 86 = .ok (.putfield 44, 3) := by decide +kernel
theorem dX11_init_89 : decode cX11_init 89 = .ok (.aload_n 0, 1) := by decide +kernel
theorem dX11_init_90 : decode cX11_init 90 = .ok (.bipush 30, 2) := by decide +kernel
theorem dX11_init_92 : decode cX11_init 92 = .ok (.newarray .int, 2) := by decide +kernel
theorem dX11_init_94 : decode cX11_init 94 = .ok (.putfield 47, 3) := by decide +kernel
theorem dX11_init_97 : decode cX11_init 97 = .ok (.aload_n 0, 1) := by decide +kernel
theorem dX11_init_98 : decode cX11_init 98 = .ok (.bipush 30, 2) := by decide +kernel
theorem dX11_init_100 : decode cX11_init 100 = .ok (.newarray .int, 2) := by decide +kernel
theorem dX11_init_102 : decode cX11_init 102 = .ok (.putfield 50, 3) := by decide +kernel
theorem dX11_init_105 : decode cX11_init 105 = .ok (.aload_n 0, 1) := by decide +kernel
theorem dX11_init_106 : decode cX11_init 106 = .ok (.bipush 30, 2) := by decide +kernel
theorem dX11_init_108 : decode cX11_init 108 = .ok (.newarray .int, 2) := by decide +kernel
theorem dX11_init_110 : decode cX11_init 110 = .ok (.putfield 53, 3) := by decide +kernel
theorem dX11_init_113 : decode cX11_init 113 = .ok (.aload_n 0, 1) := by decide +kernel
theorem dX11_init_114 : decode cX11_init 114 = .ok (.bipush 30, 2) := by decide +kernel
theorem dX11_init_116 : decode cX11_init 116 = .ok (.newarray .long, 2) := by decide +kernel
theorem dX11_init_118 : decode cX11_init 118 = .ok (.putfield 56, 3) := by decide +kernel
theorem dX11_init_121 : decode cX11_init 121 = .ok (.aload_n 0, 1) := by decide +kernel
theorem dX11_init_122 : decode cX11_init 122 = .ok (.bipush 100, 2) := by decide +kernel
theorem dX11_init_124 : decode cX11_init 124 = .ok (.newarray .int, 2) := by decide +kernel
theorem dX11_init_126 : decode cX11_init 126 = .ok (.putfield 59, 3) := by decide +kernel
theorem dX11_init_129 : decode cX11_init 129 = .ok (.aload_n 0, 1) := by decide +kernel
theorem dX11_init_130 : decode cX11_init 130 = .ok (.sipush 26047, 3) := by decide +kernel
theorem dX11_init_133 : decode cX11_init 133 = .ok (.newarray .long, 2) := by decide +kernel
theorem dX11_init_135 : decode cX11_init 135 = .ok (.putfield 62, 3) := by decide +kernel
theorem dX11_init_138 : decode cX11_init 138 = .ok (.aload_n 0, 1) := by decide +kernel
theorem dX11_init_139 : decode cX11_init 139 = .ok (.sipush 22500, 3) := by decide +kernel
theorem dX11_init_142 : decode cX11_init 142 = .ok (.newarray .long, 2) := by decide +kernel
theorem dX11_init_144 : decode cX11_init 144 = .ok (.putfield 65, 3) := by decide +kernel
theorem dX11_init_147 : decode cX11_init 147 = .ok (.aload_n 0, 1) := by decide +kernel
theorem dX11_init_148 : decode cX11_init 148 = .ok (.bipush 6, 2) := by decide +kernel
theorem dX11_init_150 : decode cX11_init 150 = .ok (.newarray .int, 2) := by decide +kernel
theorem dX11_init_152 : decode cX11_init 152 = .ok (.putfield 68, 3) := by decide +kernel
theorem dX11_init_155 : decode cX11_init 155 = .ok (.aload_n 0, 1) := by decide +kernel
theorem dX11_init_156 : decode cX11_init 156 = .ok (.bipush 6, 2) := by decide +kernel
theorem dX11_init_158 : decode cX11_init 158 = .ok (.newarray .int, 2) := by decide +kernel
theorem dX11_init_160 : decode cX11_init 160 = .ok (.putfield 71, 3) := by decide +kernel
theorem dX11_init_163 : decode cX11_init 163 = .ok (.aload_n 0, 1) := by decide +kernel
theorem dX11_init_164 : decode cX11_init 164 = .ok (.bipush 6, 2) := by decide +kernel
theorem dX11_init_166 : decode cX11_init 166 = .ok (.newarray .int, 2) := by decide +kernel
theorem dX11_init_168 : decode cX11_init 168 = .ok (.putfield 74, 3) := by decide +kernel
theorem dX11_init_171 : decode cX11_init 171 = .ok (.aload_n 0, 1) := by decide +kernel
theorem dX11_init_172 : decode cX11_init 172 = .ok (.iconst 4, 1) := by decide +kernel
theorem dX11_init_173 : decode cX11_init 173 = .ok (.newarray .int, 2) := by decide +kernel
theorem dX11_init_175 : decode cX11_init 175 = .ok (.dup, 1) := by decide +kernel
theorem dX11_init_176 : decode cX11_init 176 = .ok (.iconst 0, 1) := by decide +kernel
theorem dX11_init_177 : decode cX11_init 177 = .ok (.iconst (-1), 1) := by decide +kernel
theorem dX11_init_178 : decode cX11_init 178 = .ok (.iastore, 1) := by decide +kernel
theorem dX11_init_179 : decode cX11_init 179 = .ok (.dup, 1) := by decide +kernel
theorem dX11_init_180 : decode cX11_init 180 = .ok (.iconst 1, 1) := by decide +kernel
theorem dX11_init_181 : decode cX11_init 181 = .ok (.iconst (-1), 1) := by decide +kernel
theorem dX11_init_182 : decode cX11_init 182 = .ok (.iastore, 1) := by decide +kernel
theorem dX11_init_183 : decode cX11_init 183 = .ok (.dup, 1) := by decide +kernel
theorem dX11_init_184 : decode cX11_init 184 = .ok (.iconst 2, 1) := by decide +kernel
theorem dX11_init_185 : decode cX11_init 185 = .ok (.iconst (-1), 1) := by decide +kernel
theorem dX11_init_186 : decode cX11_init 186 = .ok (.iastore, 1) := by decide +kernel
theorem dX11_init_187 : decode cX11_init 187 = .ok (.dup, 1) := by decide +kernel
theorem dX11_init_188 : decode cX11_init 188 = .ok (.iconst 3, 1) := by decide +kernel
theorem dX11_init_189 : decode cX11_init 189 = .ok (.iconst (-1), 1) := by decide +kernel
theorem dX11_init_190 : decode cX11_init 190 = .ok (.iastore, 1) := by decide +kernel
theorem dX11_init_191 : decode cX11_init 191 = .ok (.putfield 77, 3) := by decide +kernel
theorem dX11_init_194 : decode cX11_init 194 = .ok (.aload_n 0, 1) := by decide +kernel
theorem dX11_init_195 : decode cX11_init 195 = .ok (.iconst 4, 1) := by decide +kernel
theorem dX11_init_196 : decode cX11_init 196 = .ok (.newarray .int, 2) := by decide +kernel
theorem dX11_init_198 : decode cX11_init 198 = .ok (.putfield 80, 3) := by decide +kernel
theorem dX11_init_201 : decode cX11_init 201 = .ok (.aload_n 0, 1) := by decide +kernel
theorem dX11_init_202 : decode cX11_init 202 = .ok (.sipush 240, 3) := by decide +kernel
theorem dX11_init_205 : decode cX11_init 205 = .ok (.newarray .long, 2) := by decide +kernel
theorem dX11_init_207 : decode cX11_init 207 = .ok (.putfield 83, 3) := by decide +kernel
theorem dX11_init_210 : decode cX11_init 210 = .ok (.return_, 1) := by decide +kernel
theorem dX11_in_0 : decode cX11_in 0 = .ok (.iload_n 0, 1) := by decide +kernel
theorem dX11_in_1 : decode cX11_in 1 = .ok (.iload_n 1, 1) := by decide +kernel
theorem dX11_in_2 : decode cX11_in 2 = .ok (.if_icmp .lt 12, 3) := by decide +kernel
theorem dX11_in_5 : decode cX11_in 5 = .ok (.iload_n 0, 1) := by decide +kernel
theorem dX11_in_6 : decode cX11_in 6 = .ok (.iload_n 2, 1) := by decide +kernel
theorem dX11_in_7 : decode cX11_in 7 = .ok (.if_icmp .gt 7, 3) := by decide +kernel
theorem dX11_in_10 : decode cX11_in 10 = .ok (.iconst 1, 1) := by decide +kernel
theorem dX11_in_11 : decode cX11_in 11 = .ok (.goto 4, 3) := by decide +kernel
theorem dX11_in_14 : decode cX11_in 14 = .ok (.iconst 0, 1) := by decide +kernel
theorem dX11_in_15 : decode cX11_in 15 = .ok (.ireturn, 1) := by decide +kernel
theorem dX11_isPart_0 : decode cX11_isPart 0 = .ok (.iload_n 1, 1) := by decide +kernel
theorem dX11_isPart_1 : decode cX11_isPart 1 = .ok (.iconst 0, 1) := by decide +kernel
theorem dX11_isPart_2 : decode cX11_isPart 2 = .ok (.aload_n 0, 1) := by decide +kernel
theorem dX11_isPart_3 : decode cX11_isPart 3 = .ok (.getfield 86, 3) := by decide +kernel
theorem dX11_isPart_6 : decode cX11_isPart 6 = .ok (.iconst 1, 1) := by decide +kernel
theorem dX11_isPart_7 : decode cX11_isPart 7 = .ok (.isub, 1) := by decide +kernel
theorem dX11_isPart_8 : decode cX11_isPart 8 = .ok (.invokestatic 89, 3) := by decide +kernel
theorem dX11_isPart_11 : decode cX11_isPart 11 = .ok (.ireturn, 1) := by decide +kernel
theorem dX11_changes_0 : decode cX11_changes 0 = .ok (.aload_n 0, 1) := by decide +kernel
theorem dX11_changes_1 : decode cX11_changes 1 = .ok (.getfield 93, 3) := by decide +kernel
theorem dX11_changes_4 : decode cX11_changes 4 = .ok (.bipush 30, 2) := by decide +kernel
theorem dX11_changes_6 : decode cX11_changes 6 = .ok (.if_icmp .ne 111, 3) := by decide +kernel
theorem dX11_changes_9 : decode cX11_changes 9 = .ok (.iconst 1, 1) := by decide +kernel
theorem dX11_changes_10 : decode cX11_changes 10 = .ok (.istore_n 3, 1) := by decide +kernel
theorem dX11_changes_11 : decode cX11_changes 11 = .ok (.iload_n 3, 1) := by decide +kernel
theorem dX11_changes_12 : decode cX11_changes 12 = .ok (.bipush 30, 2) := by decide +kernel
theorem dX11_changes_14 : decode cX11_changes 14 = .ok (.if_icmp .ge 93, 3) := by decide +kernel
theorem dX11_changes_17 : decode cX11_changes 17 = .ok (.aload_n 0, 1) := by decide +kernel
theorem dX11_changes_18 : decode cX11_changes 18 = .ok (.getfield 41, 3) := by decide +kernel
theorem dX11_changes_21 : decode cX11_changes 21 = .ok (.iload_n 3, 1) := by decide +kernel
theorem dX11_changes_22 : decode cX11_changes 22 = .ok (.iconst 1, 1) := by decide +kernel
theorem dX11_changes_23 : decode cX11_changes 23 = .ok (.isub, 1) := by decide +kernel
theorem dX11_changes_24 : decode cX11_changes 24 = .ok (.aload_n 0, 1) := by decide +kernel
theorem dX11_changes_25 : decode cX11_changes 25 = .ok (.getfield 41, 3) := by decide +kernel
theorem dX11_changes_28 : decode cX11_changes 28 = .ok (.iload_n 3, 1) := by decide +kernel
theorem dX11_changes_29 : decode cX11_changes 29 = .ok (.iaload, 1) := by decide +kernel
theorem dX11_changes_30 : decode cX11_changes 30 = .ok (.iastore, 1) := by decide +kernel
theorem dX11_changes_31 : decode cX11_changes 31 = .ok (.aload_n 0, 1) := by decide +kernel
theorem dX11_changes_32 : decode cX11_changes 32 = .ok (.getfield 44, 3) := by decide +kernel
theorem dX11_changes_35 : decode cX11_changes 35 = .ok (.iload_n 3, 1) := by decide +kernel
theorem dX11_changes_36 : decode cX11_changes 36 = .ok (.iconst 1, 1) := by decide +kernel
theorem dX11_changes_37 : decode cX11_changes 37 = .ok (.isub, 1) := by decide +kernel
theorem dX11_changes_38 : decode cX11_changes 38 = .ok (.aload_n 0, 1) := by decide +kernel
theorem dX11_changes_39 : decode cX11_changes 39 = .ok (.getfield 44, 3) := by decide +kernel
theorem dX11_changes_42 : decode cX11_changes 42 = .ok (.iload_n 3, 1) := by decide +kernel
theorem dX11_changes_43 : decode cX11_changes 43 = .ok (.iaload, 1) := by decide +kernel
theorem dX11_changes_44 : decode cX11_changes 44 = .ok (.iastore, 1) := by decide +kernel
theorem dX11_changes_45 : decode cX11_changes 45 = .ok (.aload_n 0, 1) := by decide +kernel
theorem dX11_changes_46 : decode cX11_changes 46 = .ok (.getfield 47, 3) := by decide +kernel
theorem dX11_changes_49 : decode cX11_changes 49 = .ok (.iload_n 3, 1) := by decide +kernel
theorem dX11_changes_50 : decode cX11_changes 50 = .ok (.iconst 1, 1) := by decide +kernel
theorem dX11_changes_51 : decode cX11_changes 51 = .ok (.isub, 1) := by decide +kernel
theorem dX11_changes_52 : decode cX11_changes 52 = .ok (.aload_n 0, 1) := by decide +kernel
theorem dX11_changes_53 : decode cX11_changes 53 = .ok (.getfield 47, 3) := by decide +kernel
theorem dX11_changes_56 : decode cX11_changes 56 = .ok (.iload_n 3, 1) := by decide +kernel
theorem dX11_changes_57 : decode cX11_changes 57 = .ok (.iaload, 1) := by decide +kernel
theorem dX11_changes_58 : decode cX11_changes 58 = .ok (.iastore, 1) := by decide +kernel
theorem dX11_changes_59 : decode cX11_changes 59 = .ok (.aload_n 0, 1) := by decide +kernel
theorem dX11_changes_60 : decode cX11_changes 60 = .ok (.getfield 50, 3) := by decide +kernel
theorem dX11_changes_63 : decode cX11_changes 63 = .ok (.iload_n 3, 1) := by decide +kernel
theorem dX11_changes_64 : decode cX11_changes 64 = .ok (.iconst 1, 1) := by decide +kernel
theorem dX11_changes_65 : decode cX11_changes 65 = .ok (.isub, 1) := by decide +kernel
theorem dX11_changes_66 : decode cX11_changes 66 = .ok (.aload_n 0, 1) := by decide +kernel
theorem dX11_changes_67 : decode cX11_changes 67 = .ok (.getfield 50, 3) := by decide +kernel
theorem dX11_changes_70 : decode cX11_changes 70 = .ok (.iload_n 3, 1) := by decide +kernel
theorem dX11_changes_71 : decode cX11_changes 71 = .ok (.iaload, 1) := by decide +kernel
theorem dX11_changes_72 : decode cX11_changes 72 = .ok (.iastore, 1) := by decide +kernel
theorem dX11_changes_73 : decode cX11_changes 73 = .ok (.aload_n 0, 1) := by decide +kernel
theorem dX11_changes_74 : decode cX11_changes 74 = .ok (.getfield 53, 3) := by decide +kernel
theorem dX11_changes_77 : decode cX11_changes 77 = .ok (.iload_n 3, 1) := by decide +kernel
theorem dX11_changes_78 : decode cX11_changes 78 = .ok (.iconst 1, 1) := by decide +kernel
theorem dX11_changes_79 : decode cX11_changes 79 = .ok (.isub, 1) := by decide +kernel
theorem dX11_changes_80 : decode cX11_changes 80 = .ok (.aload_n 0, 1) := by decide +kernel
theorem dX11_changes_81 : decode cX11_changes 81 = .ok (.getfield 53, 3) := by decide +kernel
theorem dX11_changes_84 : decode cX11_changes 84 = .ok (.iload_n 3, 1) := by decide +kernel
theorem dX11_changes_85 : decode cX11_changes 85 = .ok (.iaload, 1) := by decide +kernel
theorem dX11_changes_86 : decode cX11_changes 86 = .ok (.iastore, 1) := by decide +kernel
theorem dX11_changes_87 : decode cX11_changes 87 = .ok (.aload_n 0, 1) := by decide +kernel
theorem dX11_changes_88 : decode cX11_changes 88 = .ok (.getfield 56, 3) := by decide +kernel
theorem dX11_changes_91 : decode cX11_changes 91 = .ok (.iload_n 3, 1) := by decide +kernel
theorem dX11_changes_92 : decode cX11_changes 92 = .ok (.iconst 1, 1) := by decide +kernel
theorem dX11_changes_93 : decode cX11_changes 93 = .ok (.isub, 1) := by decide +kernel
theorem dX11_changes_94 : decode cX11_changes 94 = .ok (.aload_n 0, 1) := by decide +kernel
theorem dX11_changes_95 : decode cX11_changes 95 = .ok (.getfield 56, 3) := by decide +kernel
theorem dX11_changes_98 : decode cX11_changes 98 = .ok (.iload_n 3, 1) := by decide +kernel
theorem dX11_changes_99 : decode cX11_changes 99 = .ok (.laload, 1) := by decide +kernel
theorem dX11_changes_100 : decode cX11_changes 100 = .ok (.lastore, 1) := by decide +kernel
theorem dX11_changes_101 : decode cX11_changes 101 = .ok (.iinc 3 1, 3) := by decide +kernel
theorem dX11_changes_104 : decode cX11_changes 104 = .ok (.goto (-93), 3) := by decide +kernel
theorem dX11_changes_107 : decode cX11_changes 107 = .ok (.aload_n 0, 1) := by decide +kernel
theorem dX11_changes_108 : decode cX11_changes 108 = .ok (.dup, 1) := by decide +kernel
theorem dX11_changes_109 : decode cX11_changes 109 = .ok (.getfield 93, 3) := by decide +kernel
theorem dX11_changes_112 : decode cX11_changes 112 = .ok (.iconst 1, 1) := by decide +kernel
theorem dX11_changes_113 : decode cX11_changes 113 = .ok (.isub, 1) := by decide +kernel
theorem dX11_changes_114 : decode cX11_changes 114 = .ok (.putfield 93, 3) := by decide +kernel
theorem dX11_changes_117 : decode cX11_changes 117 = .ok (.aload_n 0, 1) := by decide +kernel
theorem dX11_changes_118 : decode cX11_changes 118 = .ok (.getfield 41, 3) := by decide +kernel
theorem dX11_changes_121 : decode cX11_changes 121 = .ok (.aload_n 0, 1) := by decide +kernel
theorem dX11_changes_122 : decode cX11_changes 122 = .ok (.getfield 93, 3) := by decide +kernel
theorem dX11_changes_125 : decode cX11_changes 125 = .ok (.iload_n 1, 1) := by decide +kernel
theorem dX11_changes_126 : decode cX11_changes 126 = .ok (.iastore, 1) := by decide +kernel
theorem dX11_changes_127 : decode cX11_changes 127 = .ok (.aload_n 0, 1) := by decide +kernel
theorem dX11_changes_128 : decode cX11_changes 128 = .ok (.getfield 44, 3) := by decide +kernel
theorem dX11_changes_131 : decode cX11_changes 131 = .ok (.aload_n 0, 1) := by decide +kernel
theorem dX11_changes_132 : decode cX11_changes 132 = .ok (.getfield 93, 3) := by decide +kernel
theorem dX11_changes_135 : decode cX11_changes 135 = .ok (.iload_n 2, 1) := by decide +kernel
theorem dX11_changes_136 : decode cX11_changes 136 = .ok (.iastore, 1) := by decide +kernel
theorem dX11_changes_137 : decode cX11_changes 137 = .ok (.aload_n 0, 1) := by decide +kernel
theorem dX11_changes_138 : decode cX11_changes 138 = .ok (.getfield 47, 3) := by decide +kernel
theorem dX11_changes_141 : decode cX11_changes 141 = .ok (.aload_n 0, 1) := by decide +kernel
theorem dX11_changes_142 : decode cX11_changes 142 = .ok (.getfield 93, 3) := by decide +kernel
theorem dX11_changes_145 : decode cX11_changes 145 = .ok (.aload_n 0, 1) := by decide +kernel
theorem dX11_changes_146 : decode cX11_changes 146 = .ok (.getfield 15, 3) := by decide +kernel
theorem dX11_changes_149 : decode cX11_changes 149 = .ok (.iload_n 2, 1) := by decide +kernel
theorem dX11_changes_150 : decode cX11_changes 150 = .ok (.iaload, 1) := by decide +kernel
theorem dX11_changes_151 : decode cX11_changes 151 = .ok (.iastore, 1) := by decide +kernel
theorem dX11_changes_152 : decode cX11_changes 152 = .ok (.aload_n 0, 1) := by decide +kernel
theorem dX11_changes_153 : decode cX11_changes 153 = .ok (.getfield 50, 3) := by decide +kernel
theorem dX11_changes_156 : decode cX11_changes 156 = .ok (.aload_n 0, 1) := by decide +kernel
theorem dX11_changes_157 : decode cX11_changes 157 = .ok (.getfield 93, 3) := by decide +kernel
theorem dX11_changes_160 : decode cX11_changes 160 = .ok (.aload_n 0, 1) := by decide +kernel
theorem dX11_changes_161 : decode cX11_changes 161 = .ok (.getfield 19, 3) := by decide +kernel
theorem dX11_changes_164 : decode cX11_changes 164 = .ok (.iload_n 2, 1) := by decide +kernel
theorem dX11_changes_165 : decode cX11_changes 165 = .ok (.iaload, 1) := by decide +kernel
theorem dX11_changes_166 : decode cX11_changes 166 = .ok (.iastore, 1) := by decide +kernel
theorem dX11_changes_167 : decode cX11_changes 167 = .ok (.aload_n 0, 1) := by decide +kernel
theorem dX11_changes_168 : decode cX11_changes 168 = .ok (.getfield 53, 3) := by decide +kernel
theorem dX11_changes_171 : decode cX11_changes 171 = .ok (.aload_n 0, 1) := by decide +kernel
theorem dX11_changes_172 : decode cX11_changes 172 = .ok (.getfield 93, 3) := by decide +kernel
theorem dX11_changes_175 : decode cX11_changes 175 = .ok (.aload_n 0, 1) := by decide +kernel
theorem dX11_changes_176 : decode cX11_changes 176 = .ok (.getfield 22, 3) := by decide +kernel
theorem dX11_changes_179 : decode cX11_changes 179 = .ok (.iload_n 2, 1) := by decide +kernel
theorem dX11_changes_180 : decode cX11_changes 180 = .ok (.iaload, 1) := by decide +kernel
theorem dX11_changes_181 : decode cX11_changes 181 = .ok (.iastore, 1) := by decide +kernel
theorem dX11_changes_182 : decode cX11_changes 182 = .ok (.aload_n 0, 1) := by decide +kernel
theorem dX11_changes_183 : decode cX11_changes 183 = .ok (.getfield 56, 3) := by decide +kernel
theorem dX11_changes_186 : decode cX11_changes 186 = .ok (.aload_n 0, 1) := by decide +kernel
theorem dX11_changes_187 : decode cX11_changes 187 = .ok (.getfield 93, 3) := by decide +kernel
theorem dX11_changes_190 : decode cX11_changes 190 = .ok (.aload_n 0, 1) := by decide +kernel
theorem dX11_changes_191 : decode cX11_changes 191 = .ok (.getfield 25, 3) := by decide +kernel
theorem dX11_changes_194 : decode cX11_changes 194 = .ok (.iload_n 2, 1) := by decide +kernel
theorem dX11_changes_195 : decode cX11_changes 195 = .ok (.laload, 1) := by decide +kernel
theorem dX11_changes_196 : decode cX11_changes 196 = .ok (.lastore, 1) := by decide +kernel
theorem dX11_changes_197 : decode cX11_changes 197 = .ok (.aload_n 0, 1) := by decide +kernel
theorem dX11_changes_198 : decode cX11_changes 198 = .ok (.dup, 1) := by decide +kernel
theorem dX11_changes_199 : decode cX11_changes 199 = .ok (.getfield 93, 3) := by decide +kernel
theorem dX11_changes_202 : decode cX11_changes 202 = .ok (.iconst 1, 1) := by decide +kernel
theorem dX11_changes_203 : decode cX11_changes 203 = .ok (.iadd, 1) := by decide +kernel
theorem dX11_changes_204 : decode cX11_changes 204 = .ok (.putfield 93, 3) := by decide +kernel
theorem dX11_changes_207 : decode cX11_changes 207 = .ok (.return_, 1) := by decide +kernel
theorem dX11_comes_0 : decode cX11_comes 0 = .ok (.aload_n 0, 1) := by decide +kernel
theorem dX11_comes_1 : decode cX11_comes 1 = .ok (.getfield 86, 3) := by decide +kernel
theorem dX11_comes_4 : decode cX11_comes 4 = .ok (.istore_n 3, 1) := by decide +kernel
theorem dX11_comes_5 : decode cX11_comes 5 = .ok (.aload_n 0, 1) := by decide +kernel
theorem dX11_comes_6 : decode cX11_comes 6 = .ok (.iconst 0, 1) := by decide +kernel
theorem dX11_comes_7 : decode cX11_comes 7 = .ok (.iload_n 3, 1) := by decide +kernel
theorem dX11_comes_8 : decode cX11_comes 8 = .ok (.invokevirtual 96, 3) := by decide +kernel
theorem dX11_comes_11 : decode cX11_comes 11 = .ok (.aload_n 0, 1) := by decide +kernel
theorem dX11_comes_12 : decode cX11_comes 12 = .ok (.getfield 15, 3) := by decide +kernel
theorem dX11_comes_15 : decode cX11_comes 15 = .ok (.iload_n 3, 1) := by decide +kernel
theorem dX11_comes_16 : decode cX11_comes 16 = .ok (.iload_n 1, 1) := by decide +kernel
theorem dX11_comes_17 : decode cX11_comes 17 = .ok (.iastore, 1) := by decide +kernel
theorem dX11_comes_18 : decode cX11_comes 18 = .ok (.aload_n 0, 1) := by decide +kernel
theorem dX11_comes_19 : decode cX11_comes 19 = .ok (.getfield 19, 3) := by decide +kernel
theorem dX11_comes_22 : decode cX11_comes 22 = .ok (.iload_n 3, 1) := by decide +kernel
theorem dX11_comes_23 : decode cX11_comes 23 = .ok (.iload_n 2, 1) := by decide +kernel
theorem dX11_comes_24 : decode cX11_comes 24 = .ok (.iastore, 1) := by decide +kernel
theorem dX11_comes_25 : decode cX11_comes 25 = .ok (.aload_n 0, 1) := by decide +kernel
theorem dX11_comes_26 : decode cX11_comes 26 = .ok (.getfield 22, 3) := by decide +kernel
theorem dX11_comes_29 : decode cX11_comes 29 = .ok (.iload_n 3, 1) := by decide +kernel
theorem dX11_comes_30 : decode cX11_comes 30 = .ok (.iconst 1, 1) := by decide +kernel
theorem dX11_comes_31 : decode cX11_comes 31 = .ok (.iastore, 1) := by decide +kernel
theorem dX11_comes_32 : decode cX11_comes 32 = .ok (.aload_n 0, 1) := by decide +kernel
theorem dX11_comes_33 : decode cX11_comes 33 = .ok (.getfield 25, 3) := by decide +kernel
theorem dX11_comes_36 : decode cX11_comes 36 = .ok (.iload_n 3, 1) := by decide +kernel
theorem dX11_comes_37 : decode cX11_comes 37 = .ok (.ldc2_w 99, 3) := by decide +kernel
theorem dX11_comes_40 : decode cX11_comes 40 = .ok (.lastore, 1) := by decide +kernel
theorem dX11_comes_41 : decode cX11_comes 41 = .ok (.aload_n 0, 1) := by decide +kernel
theorem dX11_comes_42 : decode cX11_comes 42 = .ok (.dup, 1) := by decide +kernel
theorem dX11_comes_43 : decode cX11_comes 43 = .ok (.getfield 86, 3) := by decide +kernel
theorem dX11_comes_46 : decode cX11_comes 46 = .ok (.iconst 1, 1) := by decide +kernel
theorem dX11_comes_47 : decode cX11_comes 47 = .ok (.iadd, 1) := by decide +kernel
theorem dX11_comes_48 : decode cX11_comes 48 = .ok (.putfield 86, 3) := by decide +kernel
theorem dX11_comes_51 : decode cX11_comes 51 = .ok (.iload_n 3, 1) := by decide +kernel
theorem dX11_comes_52 : decode cX11_comes 52 = .ok (.ireturn, 1) := by decide +kernel
theorem dX11_part_0 : decode cX11_part 0 = .ok (.iload_n 1, 1) := by decide +kernel
theorem dX11_part_1 : decode cX11_part 1 = .ok (.iconst 0, 1) := by decide +kernel
theorem dX11_part_2 : decode cX11_part 2 = .ok (.iconst 4, 1) := by decide +kernel
theorem dX11_part_3 : decode cX11_part 3 = .ok (.invokestatic 89, 3) := by decide +kernel
theorem dX11_part_6 : decode cX11_part 6 = .ok (.ifCond .eq 18, 3) := by decide +kernel
theorem dX11_part_9 : decode cX11_part 9 = .ok (.iload_n 2, 1) := by decide +kernel
theorem dX11_part_10 : decode cX11_part 10 = .ok (.iconst 0, 1) := by decide +kernel
theorem dX11_part_11 : decode cX11_part 11 = .ok (.iconst 4, 1) := by decide +kernel
theorem dX11_part_12 : decode cX11_part 12 = .ok (.invokestatic 89, 3) := by decide +kernel
theorem dX11_part_15 : decode cX11_part 15 = .ok (.ifCond .eq 9, 3) := by decide +kernel
theorem dX11_part_18 : decode cX11_part 18 = .ok (.iload_n 1, 1) := by decide +kernel
theorem dX11_part_19 : decode cX11_part 19 = .ok (.iload_n 2, 1) := by decide +kernel
theorem dX11_part_20 : decode cX11_part 20 = .ok (.iadd, 1) := by decide +kernel
theorem dX11_part_21 : decode cX11_part 21 = .ok (.ifCond .ne 5, 3) := by decide +kernel
theorem dX11_part_24 : decode cX11_part 24 = .ok (.iconst (-1), 1) := by decide +kernel
theorem dX11_part_25 : decode cX11_part 25 = .ok (.ireturn, 1) := by decide +kernel
theorem dX11_part_26 : decode cX11_part 26 = .ok (.aload_n 0, 1) := by decide +kernel
theorem dX11_part_27 : decode cX11_part 27 = .ok (.getfield 86, 3) := by decide +kernel
theorem dX11_part_30 : decode cX11_part 30 = .ok (.bipush 6, 2) := by decide +kernel
theorem dX11_part_32 : decode cX11_part 32 = .ok (.if_icmp .ne 8, 3) := by decide +kernel
theorem dX11_part_35 : decode cX11_part 35 = .ok (.bipush (-2), 2) := by decide +kernel
theorem dX11_part_37 : decode cX11_part 37 = .ok (.goto 9, 3) := by decide +kernel
theorem dX11_part_40 : decode cX11_part 40 = .ok (.aload_n 0, 1) := by decide +kernel
theorem dX11_part_41 : decode cX11_part 41 = .ok (.iload_n 1, 1) := by decide +kernel
theorem dX11_part_42 : decode cX11_part 42 = .ok (.iload_n 2, 1) := by decide +kernel
theorem dX11_part_43 : decode cX11_part 43 = .ok (.invokevirtual 101, 3) := by decide +kernel
theorem dX11_part_46 : decode cX11_part 46 = .ok (.ireturn, 1) := by decide +kernel
theorem dX11_arc_0 : decode cX11_arc 0 = .ok (.iload_n 1, 1) := by decide +kernel
theorem dX11_arc_1 : decode cX11_arc 1 = .ok (.iconst 0, 1) := by decide +kernel
theorem dX11_arc_2 : decode cX11_arc 2 = .ok (.iconst 2, 1) := by decide +kernel
theorem dX11_arc_3 : decode cX11_arc 3 = .ok (.invokestatic 89, 3) := by decide +kernel
theorem dX11_arc_6 : decode cX11_arc 6 = .ok (.ifCond .eq 17, 3) := by decide +kernel
theorem dX11_arc_9 : decode cX11_arc 9 = .ok (.iload_n 2, 1) := by decide +kernel
theorem dX11_arc_10 : decode cX11_arc 10 = .ok (.iconst 0, 1) := by decide +kernel
theorem dX11_arc_11 : decode cX11_arc 11 = .ok (.iconst 2, 1) := by decide +kernel
theorem dX11_arc_12 : decode cX11_arc 12 = .ok (.invokestatic 89, 3) := by decide +kernel
theorem dX11_arc_15 : decode cX11_arc 15 = .ok (.ifCond .eq 8, 3) := by decide +kernel
theorem dX11_arc_18 : decode cX11_arc 18 = .ok (.iload_n 1, 1) := by decide +kernel
theorem dX11_arc_19 : decode cX11_arc 19 = .ok (.iload_n 2, 1) := by decide +kernel
theorem dX11_arc_20 : decode cX11_arc 20 = .ok (.if_icmp .lt 5, 3) := by decide +kernel
theorem dX11_arc_23 : decode cX11_arc 23 = .ok (.iconst (-1), 1) := by decide +kernel
theorem dX11_arc_24 : decode cX11_arc 24 = .ok (.ireturn, 1) := by decide +kernel
theorem dX11_arc_25 : decode cX11_arc 25 = .ok (.aload_n 0, 1) := by decide +kernel
theorem dX11_arc_26 : decode cX11_arc 26 = .ok (.getfield 86, 3) := by decide +kernel
theorem dX11_arc_29 : decode cX11_arc 29 = .ok (.bipush 6, 2) := by decide +kernel
theorem dX11_arc_31 : decode cX11_arc 31 = .ok (.if_icmp .ne 8, 3) := by decide +kernel
theorem dX11_arc_34 : decode cX11_arc 34 = .ok (.bipush (-2), 2) := by decide +kernel
theorem dX11_arc_36 : decode cX11_arc 36 = .ok (.goto 26, 3) := by decide +kernel
theorem dX11_arc_39 : decode cX11_arc 39 = .ok (.aload_n 0, 1) := by decide +kernel
theorem dX11_arc_40 : decode cX11_arc 40 = .ok (.iload_n 1, 1) := by decide +kernel
theorem dX11_arc_41 : decode cX11_arc 41 = .ok (.ifCond .ne 7, 3) := by decide +kernel
theorem dX11_arc_44 : decode cX11_arc 44 = .ok (.iconst 1, 1) := by decide +kernel
theorem dX11_arc_45 : decode cX11_arc 45 = .ok (.goto 4, 3) := by decide +kernel
theorem dX11_arc_48 : decode cX11_arc 48 = .ok (.iconst 0, 1) := by decide +kernel
theorem dX11_arc_49 : decode cX11_arc 49 = .ok (.iload_n 2, 1) := by decide +kernel
theorem dX11_arc_50 : decode cX11_arc 50 = .ok (.iconst 2, 1) := by decide +kernel
theorem dX11_arc_51 : decode cX11_arc 51 = .ok (.if_icmp .ne 7, 3) := by decide +kernel
theorem dX11_arc_54 : decode cX11_arc 54 = .ok (.iconst 1, 1) := by decide +kernel
theorem dX11_arc_55 : decode cX11_arc 55 = .ok (.goto 4, 3) := by decide +kernel
theorem dX11_arc_58 : decode cX11_arc 58 = .ok (.iconst 0, 1) := by decide +kernel
theorem dX11_arc_59 : decode cX11_arc 59 = .ok (.invokevirtual 101, 3) := by decide +kernel
theorem dX11_arc_62 : decode cX11_arc 62 = .ok (.ireturn, 1) := by decide +kernel
theorem dX11_drop_0 : decode cX11_drop 0 = .ok (.aload_n 0, 1) := by decide +kernel
theorem dX11_drop_1 : decode cX11_drop 1 = .ok (.getfield 86, 3) := by decide +kernel
theorem dX11_drop_4 : decode cX11_drop 4 = .ok (.ifCond .ne 6, 3) := by decide +kernel
theorem dX11_drop_7 : decode cX11_drop 7 = .ok (.bipush (-3), 2) := by decide +kernel
theorem dX11_drop_9 : decode cX11_drop 9 = .ok (.ireturn, 1) := by decide +kernel
theorem dX11_drop_10 : decode cX11_drop 10 = .ok (.aload_n 0, 1) := by decide +kernel
theorem dX11_drop_11 : decode cX11_drop 11 = .ok (.iconst 1, 1) := by decide +kernel
theorem dX11_drop_12 : decode cX11_drop 12 = .ok (.aload_n 0, 1) := by decide +kernel
theorem dX11_drop_13 : decode cX11_drop 13 = .ok (.getfield 86, 3) := by decide +kernel
theorem dX11_drop_16 : decode cX11_drop 16 = .ok (.iconst 1, 1) := by decide +kernel
theorem dX11_drop_17 : decode cX11_drop 17 = .ok (.isub, 1) := by decide +kernel
theorem dX11_drop_18 : decode cX11_drop 18 = .ok (.invokevirtual 96, 3) := by decide +kernel
theorem dX11_drop_21 : decode cX11_drop 21 = .ok (.aload_n 0, 1) := by decide +kernel
theorem dX11_drop_22 : decode cX11_drop 22 = .ok (.dup, 1) := by decide +kernel
theorem dX11_drop_23 : decode cX11_drop 23 = .ok (.getfield 86, 3) := by decide +kernel
theorem dX11_drop_26 : decode cX11_drop 26 = .ok (.iconst 1, 1) := by decide +kernel
theorem dX11_drop_27 : decode cX11_drop 27 = .ok (.isub, 1) := by decide +kernel
theorem dX11_drop_28 : decode cX11_drop 28 = .ok (.putfield 86, 3) := by decide +kernel
theorem dX11_drop_31 : decode cX11_drop 31 = .ok (.aload_n 0, 1) := by decide +kernel
theorem dX11_drop_32 : decode cX11_drop 32 = .ok (.getfield 86, 3) := by decide +kernel
theorem dX11_drop_35 : decode cX11_drop 35 = .ok (.ireturn, 1) := by decide +kernel
theorem dX11_weigh_0 : decode cX11_weigh 0 = .ok (.aload_n 0, 1) := by decide +kernel
theorem dX11_weigh_1 : decode cX11_weigh 1 = .ok (.iload_n 1, 1) := by decide +kernel
theorem dX11_weigh_2 : decode cX11_weigh 2 = .ok (.invokevirtual 105, 3) := by decide +kernel
theorem dX11_weigh_5 : decode cX11_weigh 5 = .ok (.ifCond .eq 13, 3) := by decide +kernel
theorem dX11_weigh_8 : decode cX11_weigh 8 = .ok (.iload_n 2, 1) := by decide +kernel
theorem dX11_weigh_9 : decode cX11_weigh 9 = .ok (.iconst 1, 1) := by decide +kernel
theorem dX11_weigh_10 : decode cX11_weigh 10 = .ok (.bipush 99, 2) := by decide +kernel
theorem dX11_weigh_12 : decode cX11_weigh 12 = .ok (.invokestatic 89, 3) := by decide +kernel
theorem dX11_weigh_15 : decode cX11_weigh 15 = .ok (.ifCond .ne 5, 3) := by decide +kernel
theorem dX11_weigh_18 : decode cX11_weigh 18 = .ok (.iconst (-1), 1) := by decide +kernel
theorem dX11_weigh_19 : decode cX11_weigh 19 = .ok (.ireturn, 1) := by decide +kernel
theorem dX11_weigh_20 : decode cX11_weigh 20 = .ok (.aload_n 0, 1) := by decide +kernel
theorem dX11_weigh_21 : decode cX11_weigh 21 = .ok (.getfield 22, 3) := by decide +kernel
theorem dX11_weigh_24 : decode cX11_weigh 24 = .ok (.iload_n 1, 1) := by decide +kernel
theorem dX11_weigh_25 : decode cX11_weigh 25 = .ok (.iaload, 1) := by decide +kernel
theorem dX11_weigh_26 : decode cX11_weigh 26 = .ok (.istore_n 3, 1) := by decide +kernel
theorem dX11_weigh_27 : decode cX11_weigh 27 = .ok (.aload_n 0, 1) := by decide +kernel
theorem dX11_weigh_28 : decode cX11_weigh 28 = .ok (.iconst 2, 1) := by decide +kernel
theorem dX11_weigh_29 : decode cX11_weigh 29 = .ok (.iload_n 1, 1) := by decide +kernel
theorem dX11_weigh_30 : decode cX11_weigh 30 = .ok (.invokevirtual 96, 3) := by decide +kernel
theorem dX11_weigh_33 : decode cX11_weigh 33 = .ok (.aload_n 0, 1) := by decide +kernel
theorem dX11_weigh_34 : decode cX11_weigh 34 = .ok (.getfield 22, 3) := by decide +kernel
theorem dX11_weigh_37 : decode cX11_weigh 37 = .ok (.iload_n 1, 1) := by decide +kernel
theorem dX11_weigh_38 : decode cX11_weigh 38 = .ok (.iload_n 2, 1) := by decide +kernel
theorem dX11_weigh_39 : decode cX11_weigh 39 = .ok (.iastore, 1) := by decide +kernel
theorem dX11_weigh_40 : decode cX11_weigh 40 = .ok (.iload_n 3, 1) := by decide +kernel
theorem dX11_weigh_41 : decode cX11_weigh 41 = .ok (.ireturn, 1) := by decide +kernel
theorem dX11_ones_0 : decode cX11_ones 0 = .ok (.iconst 0, 1) := by decide +kernel
theorem dX11_ones_1 : decode cX11_ones 1 = .ok (.istore_n 2, 1) := by decide +kernel
theorem dX11_ones_2 : decode cX11_ones 2 = .ok (.lload_n 0, 1) := by decide +kernel
theorem dX11_ones_3 : decode cX11_ones 3 = .ok (.lstore_n 3, 1) := by decide +kernel
theorem dX11_ones_4 : decode cX11_ones 4 = .ok (.lload_n 3, 1) := by decide +kernel
theorem dX11_ones_5 : decode cX11_ones 5 = .ok (.lconst 0, 1) := by decide +kernel
theorem dX11_ones_6 : decode cX11_ones 6 = .ok (.lcmp, 1) := by decide +kernel
theorem dX11_ones_7 : decode cX11_ones 7 = .ok (.ifCond .eq 15, 3) := by decide +kernel
theorem dX11_ones_10 : decode cX11_ones 10 = .ok (.iinc 2 1, 3) := by decide +kernel
theorem dX11_ones_13 : decode cX11_ones 13 = .ok (.lload_n 3, 1) := by decide +kernel
theorem dX11_ones_14 : decode cX11_ones 14 = .ok (.lload_n 3, 1) := by decide +kernel
theorem dX11_ones_15 : decode cX11_ones 15 = .ok (.lconst 1, 1) := by decide +kernel
theorem dX11_ones_16 : decode cX11_ones 16 = .ok (.lsub, 1) := by decide +kernel
theorem dX11_ones_17 : decode cX11_ones 17 = .ok (.land, 1) := by decide +kernel
theorem dX11_ones_18 : decode cX11_ones 18 = .ok (.lstore_n 3, 1) := by decide +kernel
theorem dX11_ones_19 : decode cX11_ones 19 = .ok (.goto (-15), 3) := by decide +kernel
theorem dX11_ones_22 : decode cX11_ones 22 = .ok (.iload_n 2, 1) := by decide +kernel
theorem dX11_ones_23 : decode cX11_ones 23 = .ok (.ireturn, 1) := by decide +kernel
theorem dX11_partOf_0 : decode cX11_partOf 0 = .ok (.aload_n 0, 1) := by decide +kernel
theorem dX11_partOf_1 : decode cX11_partOf 1 = .ok (.iload_n 1, 1) := by decide +kernel
theorem dX11_partOf_2 : decode cX11_partOf 2 = .ok (.invokevirtual 105, 3) := by decide +kernel
theorem dX11_partOf_5 : decode cX11_partOf 5 = .ok (.ifCond .ne 5, 3) := by decide +kernel
theorem dX11_partOf_8 : decode cX11_partOf 8 = .ok (.iconst (-1), 1) := by decide +kernel
theorem dX11_partOf_9 : decode cX11_partOf 9 = .ok (.ireturn, 1) := by decide +kernel
theorem dX11_partOf_10 : decode cX11_partOf 10 = .ok (.iload_n 2, 1) := by decide +kernel
theorem dX11_partOf_11 : decode cX11_partOf 11 = .ok (.tableswitch 70 0 4 #[33, 40, 47, 54, 60], 33) := by decide +kernel
theorem dX11_partOf_44 : decode cX11_partOf 44 = .ok (.aload_n 0, 1) := by decide +kernel
theorem dX11_partOf_45 : decode cX11_partOf 45 = .ok (.getfield 15, 3) := by decide +kernel
theorem dX11_partOf_48 : decode cX11_partOf 48 = .ok (.iload_n 1, 1) := by decide +kernel
theorem dX11_partOf_49 : decode cX11_partOf 49 = .ok (.iaload, 1) := by decide +kernel
theorem dX11_partOf_50 : decode cX11_partOf 50 = .ok (.ireturn, 1) := by decide +kernel
theorem dX11_partOf_51 : decode cX11_partOf 51 = .ok (.aload_n 0, 1) := by decide +kernel
theorem dX11_partOf_52 : decode cX11_partOf 52 = .ok (.getfield 19, 3) := by decide +kernel
theorem dX11_partOf_55 : decode cX11_partOf 55 = .ok (.iload_n 1, 1) := by decide +kernel
theorem dX11_partOf_56 : decode cX11_partOf 56 = .ok (.iaload, 1) := by decide +kernel
theorem dX11_partOf_57 : decode cX11_partOf 57 = .ok (.ireturn, 1) := by decide +kernel
theorem dX11_partOf_58 : decode cX11_partOf 58 = .ok (.aload_n 0, 1) := by decide +kernel
theorem dX11_partOf_59 : decode cX11_partOf 59 = .ok (.getfield 22, 3) := by decide +kernel
theorem dX11_partOf_62 : decode cX11_partOf 62 = .ok (.iload_n 1, 1) := by decide +kernel
theorem dX11_partOf_63 : decode cX11_partOf 63 = .ok (.iaload, 1) := by decide +kernel
theorem dX11_partOf_64 : decode cX11_partOf 64 = .ok (.ireturn, 1) := by decide +kernel
theorem dX11_partOf_65 : decode cX11_partOf 65 = .ok (.aload_n 0, 1) := by decide +kernel
theorem dX11_partOf_66 : decode cX11_partOf 66 = .ok (.iload_n 1, 1) := by decide +kernel
theorem dX11_partOf_67 : decode cX11_partOf 67 = .ok (.invokevirtual 109, 3) := by decide +kernel
theorem dX11_partOf_70 : decode cX11_partOf 70 = .ok (.ireturn, 1) := by decide +kernel
theorem dX11_partOf_71 : decode cX11_partOf 71 = .ok (.aload_n 0, 1) := by decide +kernel
theorem dX11_partOf_72 : decode cX11_partOf 72 = .ok (.getfield 25, 3) := by decide +kernel
theorem dX11_partOf_75 : decode cX11_partOf 75 = .ok (.iload_n 1, 1) := by decide +kernel
theorem dX11_partOf_76 : decode cX11_partOf 76 = .ok (.laload, 1) := by decide +kernel
theorem dX11_partOf_77 : decode cX11_partOf 77 = .ok (.invokestatic 113, 3) := by decide +kernel
theorem dX11_partOf_80 : decode cX11_partOf 80 = .ok (.ireturn, 1) := by decide +kernel
theorem dX11_partOf_81 : decode cX11_partOf 81 = .ok (.iconst (-1), 1) := by decide +kernel
theorem dX11_partOf_82 : decode cX11_partOf 82 = .ok (.ireturn, 1) := by decide +kernel
theorem dX11_undo_0 : decode cX11_undo 0 = .ok (.aload_n 0, 1) := by decide +kernel
theorem dX11_undo_1 : decode cX11_undo 1 = .ok (.getfield 93, 3) := by decide +kernel
theorem dX11_undo_4 : decode cX11_undo 4 = .ok (.ifCond .ne 6, 3) := by decide +kernel
theorem dX11_undo_7 : decode cX11_undo 7 = .ok (.bipush (-3), 2) := by decide +kernel
theorem dX11_undo_9 : decode cX11_undo 9 = .ok (.ireturn, 1) := by decide +kernel
theorem dX11_undo_10 : decode cX11_undo 10 = .ok (.aload_n 0, 1) := by decide +kernel
theorem dX11_undo_11 : decode cX11_undo 11 = .ok (.dup, 1) := by decide +kernel
theorem dX11_undo_12 : decode cX11_undo 12 = .ok (.getfield 93, 3) := by decide +kernel
theorem dX11_undo_15 : decode cX11_undo 15 = .ok (.iconst 1, 1) := by decide +kernel
theorem dX11_undo_16 : decode cX11_undo 16 = .ok (.isub, 1) := by decide +kernel
theorem dX11_undo_17 : decode cX11_undo 17 = .ok (.putfield 93, 3) := by decide +kernel
theorem dX11_undo_20 : decode cX11_undo 20 = .ok (.aload_n 0, 1) := by decide +kernel
theorem dX11_undo_21 : decode cX11_undo 21 = .ok (.getfield 44, 3) := by decide +kernel
theorem dX11_undo_24 : decode cX11_undo 24 = .ok (.aload_n 0, 1) := by decide +kernel
theorem dX11_undo_25 : decode cX11_undo 25 = .ok (.getfield 93, 3) := by decide +kernel
theorem dX11_undo_28 : decode cX11_undo 28 = .ok (.iaload, 1) := by decide +kernel
theorem dX11_undo_29 : decode cX11_undo 29 = .ok (.istore_n 1, 1) := by decide +kernel
theorem dX11_undo_30 : decode cX11_undo 30 = .ok (.aload_n 0, 1) := by decide +kernel
theorem dX11_undo_31 : decode cX11_undo 31 = .ok (.getfield 41, 3) := by decide +kernel
theorem dX11_undo_34 : decode cX11_undo 34 = .ok (.aload_n 0, 1) := by decide +kernel
theorem dX11_undo_35 : decode cX11_undo 35 = .ok (.getfield 93, 3) := by decide +kernel
theorem dX11_undo_38 : decode cX11_undo 38 = .ok (.iaload, 1) := by decide +kernel
theorem dX11_undo_39 : decode cX11_undo 39 = .ok (.ifCond .ne 18, 3) := by decide +kernel
theorem dX11_undo_42 : decode cX11_undo 42 = .ok (.aload_n 0, 1) := by decide +kernel
theorem dX11_undo_43 : decode cX11_undo 43 = .ok (.dup, 1) := by decide +kernel
theorem dX11_undo_44 : decode cX11_undo 44 = .ok (.getfield 86, 3) := by decide +kernel
theorem dX11_undo_47 : decode cX11_undo 47 = .ok (.iconst 1, 1) := by decide +kernel
theorem dX11_undo_48 : decode cX11_undo 48 = .ok (.isub, 1) := by decide +kernel
theorem dX11_undo_49 : decode cX11_undo 49 = .ok (.putfield 86, 3) := by decide +kernel
theorem dX11_undo_52 : decode cX11_undo 52 = .ok (.aload_n 0, 1) := by decide +kernel
theorem dX11_undo_53 : decode cX11_undo 53 = .ok (.getfield 93, 3) := by decide +kernel
theorem dX11_undo_56 : decode cX11_undo 56 = .ok (.ireturn, 1) := by decide +kernel
theorem dX11_undo_57 : decode cX11_undo 57 = .ok (.aload_n 0, 1) := by decide +kernel
theorem dX11_undo_58 : decode cX11_undo 58 = .ok (.dup, 1) := by decide +kernel
theorem dX11_undo_59 : decode cX11_undo 59 = .ok (.getfield 86, 3) := by decide +kernel
theorem dX11_undo_62 : decode cX11_undo 62 = .ok (.aload_n 0, 1) := by decide +kernel
theorem dX11_undo_63 : decode cX11_undo 63 = .ok (.getfield 41, 3) := by decide +kernel
theorem dX11_undo_66 : decode cX11_undo 66 = .ok (.aload_n 0, 1) := by decide +kernel
theorem dX11_undo_67 : decode cX11_undo 67 = .ok (.getfield 93, 3) := by decide +kernel
theorem dX11_undo_70 : decode cX11_undo 70 = .ok (.iaload, 1) := by decide +kernel
theorem dX11_undo_71 : decode cX11_undo 71 = .ok (.iconst 1, 1) := by decide +kernel
theorem dX11_undo_72 : decode cX11_undo 72 = .ok (.if_icmp .ne 7, 3) := by decide +kernel
theorem dX11_undo_75 : decode cX11_undo 75 = .ok (.iconst 1, 1) := by decide +kernel
theorem dX11_undo_76 : decode cX11_undo 76 = .ok (.goto 4, 3) := by decide +kernel
theorem dX11_undo_79 : decode cX11_undo 79 = .ok (.iconst 0, 1) := by decide +kernel
theorem dX11_undo_80 : decode cX11_undo 80 = .ok (.iadd, 1) := by decide +kernel
theorem dX11_undo_81 : decode cX11_undo 81 = .ok (.putfield 86, 3) := by decide +kernel
theorem dX11_undo_84 : decode cX11_undo 84 = .ok (.aload_n 0, 1) := by decide +kernel
theorem dX11_undo_85 : decode cX11_undo 85 = .ok (.getfield 15, 3) := by decide +kernel
theorem dX11_undo_88 : decode cX11_undo 88 = .ok (.iload_n 1, 1) := by decide +kernel
theorem dX11_undo_89 : decode cX11_undo 89 = .ok (.aload_n 0, 1) := by decide +kernel
theorem dX11_undo_90 : decode cX11_undo 90 = .ok (.getfield 47, 3) := by decide +kernel
theorem dX11_undo_93 : decode cX11_undo 93 = .ok (.aload_n 0, 1) := by decide +kernel
theorem dX11_undo_94 : decode cX11_undo 94 = .ok (.getfield 93, 3) := by decide +kernel
theorem dX11_undo_97 : decode cX11_undo 97 = .ok (.iaload, 1) := by decide +kernel
theorem dX11_undo_98 : decode cX11_undo 98 = .ok (.iastore, 1) := by decide +kernel
theorem dX11_undo_99 : decode cX11_undo 99 = .ok (.aload_n 0, 1) := by decide +kernel
theorem dX11_undo_100 : decode cX11_undo 100 = .ok (.getfield 19, 3) := by decide +kernel
theorem dX11_undo_103 : decode cX11_undo 103 = .ok (.iload_n 1, 1) := by decide +kernel
theorem dX11_undo_104 : decode cX11_undo 104 = .ok (.aload_n 0, 1) := by decide +kernel
theorem dX11_undo_105 : decode cX11_undo 105 = .ok (.getfield 50, 3) := by decide +kernel
theorem dX11_undo_108 : decode cX11_undo 108 = .ok (.aload_n 0, 1) := by decide +kernel
theorem dX11_undo_109 : decode cX11_undo 109 = .ok (.getfield 93, 3) := by decide +kernel
theorem dX11_undo_112 : decode cX11_undo 112 = .ok (.iaload, 1) := by decide +kernel
theorem dX11_undo_113 : decode cX11_undo 113 = .ok (.iastore, 1) := by decide +kernel
theorem dX11_undo_114 : decode cX11_undo 114 = .ok (.aload_n 0, 1) := by decide +kernel
theorem dX11_undo_115 : decode cX11_undo 115 = .ok (.getfield 22, 3) := by decide +kernel
theorem dX11_undo_118 : decode cX11_undo 118 = .ok (.iload_n 1, 1) := by decide +kernel
theorem dX11_undo_119 : decode cX11_undo 119 = .ok (.aload_n 0, 1) := by decide +kernel
theorem dX11_undo_120 : decode cX11_undo 120 = .ok (.getfield 53, 3) := by decide +kernel
theorem dX11_undo_123 : decode cX11_undo 123 = .ok (.aload_n 0, 1) := by decide +kernel
theorem dX11_undo_124 : decode cX11_undo 124 = .ok (.getfield 93, 3) := by decide +kernel
theorem dX11_undo_127 : decode cX11_undo 127 = .ok (.iaload, 1) := by decide +kernel
theorem dX11_undo_128 : decode cX11_undo 128 = .ok (.iastore, 1) := by decide +kernel
theorem dX11_undo_129 : decode cX11_undo 129 = .ok (.aload_n 0, 1) := by decide +kernel
theorem dX11_undo_130 : decode cX11_undo 130 = .ok (.getfield 25, 3) := by decide +kernel
theorem dX11_undo_133 : decode cX11_undo 133 = .ok (.iload_n 1, 1) := by decide +kernel
theorem dX11_undo_134 : decode cX11_undo 134 = .ok (.aload_n 0, 1) := by decide +kernel
theorem dX11_undo_135 : decode cX11_undo 135 = .ok (.getfield 56, 3) := by decide +kernel
theorem dX11_undo_138 : decode cX11_undo 138 = .ok (.aload_n 0, 1) := by decide +kernel
theorem dX11_undo_139 : decode cX11_undo 139 = .ok (.getfield 93, 3) := by decide +kernel
theorem dX11_undo_142 : decode cX11_undo 142 = .ok (.laload, 1) := by decide +kernel
theorem dX11_undo_143 : decode cX11_undo 143 = .ok (.lastore, 1) := by decide +kernel
theorem dX11_undo_144 : decode cX11_undo 144 = .ok (.aload_n 0, 1) := by decide +kernel
theorem dX11_undo_145 : decode cX11_undo 145 = .ok (.getfield 93, 3) := by decide +kernel
theorem dX11_undo_148 : decode cX11_undo 148 = .ok (.ireturn, 1) := by decide +kernel
theorem dX11_feed_0 : decode cX11_feed 0 = .ok (.iload_n 3, 1) := by decide +kernel
theorem dX11_feed_1 : decode cX11_feed 1 = .ok (.iconst 1, 1) := by decide +kernel
theorem dX11_feed_2 : decode cX11_feed 2 = .ok (.bipush 8, 2) := by decide +kernel
theorem dX11_feed_4 : decode cX11_feed 4 = .ok (.invokestatic 89, 3) := by decide +kernel
theorem dX11_feed_7 : decode cX11_feed 7 = .ok (.ifCond .ne 5, 3) := by decide +kernel
theorem dX11_feed_10 : decode cX11_feed 10 = .ok (.iconst (-1), 1) := by decide +kernel
theorem dX11_feed_11 : decode cX11_feed 11 = .ok (.ireturn, 1) := by decide +kernel
theorem dX11_feed_12 : decode cX11_feed 12 = .ok (.aload_n 0, 1) := by decide +kernel
theorem dX11_feed_13 : decode cX11_feed 13 = .ok (.getfield 117, 3) := by decide +kernel
theorem dX11_feed_16 : decode cX11_feed 16 = .ok (.iload_n 3, 1) := by decide +kernel
theorem dX11_feed_17 : decode cX11_feed 17 = .ok (.iadd, 1) := by decide +kernel
theorem dX11_feed_18 : decode cX11_feed 18 = .ok (.bipush 100, 2) := by decide +kernel
theorem dX11_feed_20 : decode cX11_feed 20 = .ok (.if_icmp .le 6, 3) := by decide +kernel
theorem dX11_feed_23 : decode cX11_feed 23 = .ok (.bipush (-2), 2) := by decide +kernel
theorem dX11_feed_25 : decode cX11_feed 25 = .ok (.ireturn, 1) := by decide +kernel
theorem dX11_feed_26 : decode cX11_feed 26 = .ok (.iconst 0, 1) := by decide +kernel
theorem dX11_feed_27 : decode cX11_feed 27 = .ok (.istore 4, 2) := by decide +kernel
theorem dX11_feed_29 : decode cX11_feed 29 = .ok (.iload 4, 2) := by decide +kernel
theorem dX11_feed_31 : decode cX11_feed 31 = .ok (.iload_n 3, 1) := by decide +kernel
theorem dX11_feed_32 : decode cX11_feed 32 = .ok (.if_icmp .ge 40, 3) := by decide +kernel
theorem dX11_feed_35 : decode cX11_feed 35 = .ok (.aload_n 0, 1) := by decide +kernel
theorem dX11_feed_36 : decode cX11_feed 36 = .ok (.getfield 59, 3) := by decide +kernel
theorem dX11_feed_39 : decode cX11_feed 39 = .ok (.aload_n 0, 1) := by decide +kernel
theorem dX11_feed_40 : decode cX11_feed 40 = .ok (.getfield 117, 3) := by decide +kernel
theorem dX11_feed_43 : decode cX11_feed 43 = .ok (.lload_n 1, 1) := by decide +kernel
theorem dX11_feed_44 : decode cX11_feed 44 = .ok (.bipush 8, 2) := by decide +kernel
theorem dX11_feed_46 : decode cX11_feed 46 = .ok (.iload 4, 2) := by decide +kernel
theorem dX11_feed_48 : decode cX11_feed 48 = .ok (.imul, 1) := by decide +kernel
theorem dX11_feed_49 : decode cX11_feed 49 = .ok (.lshr, 1) := by decide +kernel
theorem dX11_feed_50 : decode cX11_feed 50 = .ok (.ldc2_w 120, 3) := by decide +kernel
theorem dX11_feed_53 : decode cX11_feed 53 = .ok (.land, 1) := by decide +kernel
theorem dX11_feed_54 : decode cX11_feed 54 = .ok (.l2i, 1) := by decide +kernel
theorem dX11_feed_55 : decode cX11_feed 55 = .ok (.iastore, 1) := by decide +kernel
theorem dX11_feed_56 : decode cX11_feed 56 = .ok (.aload_n 0, 1) := by decide +kernel
theorem dX11_feed_57 : decode cX11_feed 57 = .ok (.dup, 1) := by decide +kernel
theorem dX11_feed_58 : decode cX11_feed 58 = .ok (.getfield 117, 3) := by decide +kernel
theorem dX11_feed_61 : decode cX11_feed 61 = .ok (.iconst 1, 1) := by decide +kernel
theorem dX11_feed_62 : decode cX11_feed 62 = .ok (.iadd, 1) := by decide +kernel
theorem dX11_feed_63 : decode cX11_feed 63 = .ok (.putfield 117, 3) := by decide +kernel
theorem dX11_feed_66 : decode cX11_feed 66 = .ok (.iinc 4 1, 3) := by decide +kernel
theorem dX11_feed_69 : decode cX11_feed 69 = .ok (.goto (-40), 3) := by decide +kernel
theorem dX11_feed_72 : decode cX11_feed 72 = .ok (.aload_n 0, 1) := by decide +kernel
theorem dX11_feed_73 : decode cX11_feed 73 = .ok (.getfield 117, 3) := by decide +kernel
theorem dX11_feed_76 : decode cX11_feed 76 = .ok (.ireturn, 1) := by decide +kernel
theorem dX11_isAt_0 : decode cX11_isAt 0 = .ok (.iload_n 1, 1) := by decide +kernel
theorem dX11_isAt_1 : decode cX11_isAt 1 = .ok (.aload_n 0, 1) := by decide +kernel
theorem dX11_isAt_2 : decode cX11_isAt 2 = .ok (.getfield 117, 3) := by decide +kernel
theorem dX11_isAt_5 : decode cX11_isAt 5 = .ok (.if_icmp .ge 21, 3) := by decide +kernel
theorem dX11_isAt_8 : decode cX11_isAt 8 = .ok (.aload_n 0, 1) := by decide +kernel
theorem dX11_isAt_9 : decode cX11_isAt 9 = .ok (.getfield 59, 3) := by decide +kernel
theorem dX11_isAt_12 : decode cX11_isAt 12 = .ok (.iload_n 1, 1) := by decide +kernel
theorem dX11_isAt_13 : decode cX11_isAt 13 = .ok (.iaload, 1) := by decide +kernel
theorem dX11_isAt_14 : decode cX11_isAt 14 = .ok (.iload_n 2, 1) := by decide +kernel
theorem dX11_isAt_15 : decode cX11_isAt 15 = .ok (.iload_n 3, 1) := by decide +kernel
theorem dX11_isAt_16 : decode cX11_isAt 16 = .ok (.invokestatic 89, 3) := by decide +kernel
theorem dX11_isAt_19 : decode cX11_isAt 19 = .ok (.ifCond .eq 7, 3) := by decide +kernel
theorem dX11_isAt_22 : decode cX11_isAt 22 = .ok (.iconst 1, 1) := by decide +kernel
theorem dX11_isAt_23 : decode cX11_isAt 23 = .ok (.goto 4, 3) := by decide +kernel
theorem dX11_isAt_26 : decode cX11_isAt 26 = .ok (.iconst 0, 1) := by decide +kernel
theorem dX11_isAt_27 : decode cX11_isAt 27 = .ok (.ireturn, 1) := by decide +kernel
theorem dX11_next_0 : decode cX11_next 0 = .ok (.aload_n 0, 1) := by decide +kernel
theorem dX11_next_1 : decode cX11_next 1 = .ok (.aload_n 0, 1) := by decide +kernel
theorem dX11_next_2 : decode cX11_next 2 = .ok (.getfield 122, 3) := by decide +kernel
theorem dX11_next_5 : decode cX11_next 5 = .ok (.putfield 125, 3) := by decide +kernel
theorem dX11_next_8 : decode cX11_next 8 = .ok (.aload_n 0, 1) := by decide +kernel
theorem dX11_next_9 : decode cX11_next 9 = .ok (.aload_n 0, 1) := by decide +kernel
theorem dX11_next_10 : decode cX11_next 10 = .ok (.getfield 125, 3) := by decide +kernel
theorem dX11_next_13 : decode cX11_next 13 = .ok (.bipush 32, 2) := by decide +kernel
theorem dX11_next_15 : decode cX11_next 15 = .ok (.bipush 32, 2) := by decide +kernel
theorem dX11_next_17 : decode cX11_next 17 = .ok (.invokevirtual 128, 3) := by decide +kernel
theorem dX11_next_20 : decode cX11_next 20 = .ok (.ifCond .eq 16, 3) := by decide +kernel
theorem dX11_next_23 : decode cX11_next 23 = .ok (.aload_n 0, 1) := by decide +kernel
theorem dX11_next_24 : decode cX11_next 24 = .ok (.dup, 1) := by decide +kernel
theorem dX11_next_25 : decode cX11_next 25 = .ok (.getfield 125, 3) := by decide +kernel
theorem dX11_next_28 : decode cX11_next 28 = .ok (.iconst 1, 1) := by decide +kernel
theorem dX11_next_29 : decode cX11_next 29 = .ok (.iadd, 1) := by decide +kernel
theorem dX11_next_30 : decode cX11_next 30 = .ok (.putfield 125, 3) := by decide +kernel
theorem dX11_next_33 : decode cX11_next 33 = .ok (.goto (-25), 3) := by decide +kernel
theorem dX11_next_36 : decode cX11_next 36 = .ok (.aload_n 0, 1) := by decide +kernel
theorem dX11_next_37 : decode cX11_next 37 = .ok (.aload_n 0, 1) := by decide +kernel
theorem dX11_next_38 : decode cX11_next 38 = .ok (.getfield 125, 3) := by decide +kernel
theorem dX11_next_41 : decode cX11_next 41 = .ok (.putfield 122, 3) := by decide +kernel
theorem dX11_next_44 : decode cX11_next 44 = .ok (.aload_n 0, 1) := by decide +kernel
theorem dX11_next_45 : decode cX11_next 45 = .ok (.aload_n 0, 1) := by decide +kernel
theorem dX11_next_46 : decode cX11_next 46 = .ok (.getfield 125, 3) := by decide +kernel
theorem dX11_next_49 : decode cX11_next 49 = .ok (.bipush 97, 2) := by decide +kernel
theorem dX11_next_51 : decode cX11_next 51 = .ok (.bipush 122, 2) := by decide +kernel
theorem dX11_next_53 : decode cX11_next 53 = .ok (.invokevirtual 128, 3) := by decide +kernel
theorem dX11_next_56 : decode cX11_next 56 = .ok (.ifCond .eq 31, 3) := by decide +kernel
theorem dX11_next_59 : decode cX11_next 59 = .ok (.aload_n 0, 1) := by decide +kernel
theorem dX11_next_60 : decode cX11_next 60 = .ok (.aload_n 0, 1) := by decide +kernel
theorem dX11_next_61 : decode cX11_next 61 = .ok (.getfield 122, 3) := by decide +kernel
theorem dX11_next_64 : decode cX11_next 64 = .ok (.bipush 97, 2) := by decide +kernel
theorem dX11_next_66 : decode cX11_next 66 = .ok (.bipush 122, 2) := by decide +kernel
theorem dX11_next_68 : decode cX11_next 68 = .ok (.invokevirtual 128, 3) := by decide +kernel
theorem dX11_next_71 : decode cX11_next 71 = .ok (.ifCond .eq 80, 3) := by decide +kernel
theorem dX11_next_74 : decode cX11_next 74 = .ok (.aload_n 0, 1) := by decide +kernel
theorem dX11_next_75 : decode cX11_next 75 = .ok (.dup, 1) := by decide +kernel
theorem dX11_next_76 : decode cX11_next 76 = .ok (.getfield 122, 3) := by decide +kernel
theorem dX11_next_79 : decode cX11_next 79 = .ok (.iconst 1, 1) := by decide +kernel
theorem dX11_next_80 : decode cX11_next 80 = .ok (.iadd, 1) := by decide +kernel
theorem dX11_next_81 : decode cX11_next 81 = .ok (.putfield 122, 3) := by decide +kernel
theorem dX11_next_84 : decode cX11_next 84 = .ok (.goto (-25), 3) := by decide +kernel
theorem dX11_next_87 : decode cX11_next 87 = .ok (.aload_n 0, 1) := by decide +kernel
theorem dX11_next_88 : decode cX11_next 88 = .ok (.aload_n 0, 1) := by decide +kernel
theorem dX11_next_89 : decode cX11_next 89 = .ok (.getfield 125, 3) := by decide +kernel
theorem dX11_next_92 : decode cX11_next 92 = .ok (.bipush 48, 2) := by decide +kernel
theorem dX11_next_94 : decode cX11_next 94 = .ok (.bipush 57, 2) := by decide +kernel
theorem dX11_next_96 : decode cX11_next 96 = .ok (.invokevirtual 128, 3) := by decide +kernel
theorem dX11_next_99 : decode cX11_next 99 = .ok (.ifCond .eq 31, 3) := by decide +kernel
theorem dX11_next_102 : decode cX11_next 102 = .ok (.aload_n 0, 1) := by decide +kernel
theorem dX11_next_103 : decode cX11_next 103 = .ok (.aload_n 0, 1) := by decide +kernel
theorem dX11_next_104 : decode cX11_next 104 = .ok (.getfield 122, 3) := by decide +kernel
theorem dX11_next_107 : decode cX11_next 107 = .ok (.bipush 48, 2) := by decide +kernel
theorem dX11_next_109 : decode cX11_next 109 = .ok (.bipush 57, 2) := by decide +kernel
theorem dX11_next_111 : decode cX11_next 111 = .ok (.invokevirtual 128, 3) := by decide +kernel
theorem dX11_next_114 : decode cX11_next 114 = .ok (.ifCond .eq 37, 3) := by decide +kernel
theorem dX11_next_117 : decode cX11_next 117 = .ok (.aload_n 0, 1) := by decide +kernel
theorem dX11_next_118 : decode cX11_next 118 = .ok (.dup, 1) := by decide +kernel
theorem dX11_next_119 : decode cX11_next 119 = .ok (.getfield 122, 3) := by decide +kernel
theorem dX11_next_122 : decode cX11_next 122 = .ok (.iconst 1, 1) := by decide +kernel
theorem dX11_next_123 : decode cX11_next 123 = .ok (.iadd, 1) := by decide +kernel
theorem dX11_next_124 : decode cX11_next 124 = .ok (.putfield 122, 3) := by decide +kernel
theorem dX11_next_127 : decode cX11_next 127 = .ok (.goto (-25), 3) := by decide +kernel
theorem dX11_next_130 : decode cX11_next 130 = .ok (.aload_n 0, 1) := by decide +kernel
theorem dX11_next_131 : decode cX11_next 131 = .ok (.getfield 125, 3) := by decide +kernel
theorem dX11_next_134 : decode cX11_next 134 = .ok (.aload_n 0, 1) := by decide +kernel
theorem dX11_next_135 : decode cX11_next 135 = .ok (.getfield 117, 3) := by decide +kernel
theorem dX11_next_138 : decode cX11_next 138 = .ok (.if_icmp .ge 13, 3) := by decide +kernel
theorem dX11_next_141 : decode cX11_next 141 = .ok (.aload_n 0, 1) := by decide +kernel
theorem dX11_next_142 : decode cX11_next 142 = .ok (.dup, 1) := by decide +kernel
theorem dX11_next_143 : decode cX11_next 143 = .ok (.getfield 122, 3) := by decide +kernel
theorem dX11_next_146 : decode cX11_next 146 = .ok (.iconst 1, 1) := by decide +kernel
theorem dX11_next_147 : decode cX11_next 147 = .ok (.iadd, 1) := by decide +kernel
theorem dX11_next_148 : decode cX11_next 148 = .ok (.putfield 122, 3) := by decide +kernel
theorem dX11_next_151 : decode cX11_next 151 = .ok (.return_, 1) := by decide +kernel
theorem dX11_here_0 : decode cX11_here 0 = .ok (.iconst 0, 1) := by decide +kernel
theorem dX11_here_1 : decode cX11_here 1 = .ok (.istore_n 1, 1) := by decide +kernel
theorem dX11_here_2 : decode cX11_here 2 = .ok (.aload_n 0, 1) := by decide +kernel
theorem dX11_here_3 : decode cX11_here 3 = .ok (.getfield 125, 3) := by decide +kernel
theorem dX11_here_6 : decode cX11_here 6 = .ok (.istore_n 2, 1) := by decide +kernel
theorem dX11_here_7 : decode cX11_here 7 = .ok (.iload_n 2, 1) := by decide +kernel
theorem dX11_here_8 : decode cX11_here 8 = .ok (.aload_n 0, 1) := by decide +kernel
theorem dX11_here_9 : decode cX11_here 9 = .ok (.getfield 122, 3) := by decide +kernel
theorem dX11_here_12 : decode cX11_here 12 = .ok (.if_icmp .ge 53, 3) := by decide +kernel
theorem dX11_here_15 : decode cX11_here 15 = .ok (.aload_n 0, 1) := by decide +kernel
theorem dX11_here_16 : decode cX11_here 16 = .ok (.iload_n 2, 1) := by decide +kernel
theorem dX11_here_17 : decode cX11_here 17 = .ok (.bipush 97, 2) := by decide +kernel
theorem dX11_here_19 : decode cX11_here 19 = .ok (.bipush 122, 2) := by decide +kernel
theorem dX11_here_21 : decode cX11_here 21 = .ok (.invokevirtual 128, 3) := by decide +kernel
theorem dX11_here_24 : decode cX11_here 24 = .ok (.ifCond .eq 41, 3) := by decide +kernel
theorem dX11_here_27 : decode cX11_here 27 = .ok (.aload_n 0, 1) := by decide +kernel
theorem dX11_here_28 : decode cX11_here 28 = .ok (.getfield 122, 3) := by decide +kernel
theorem dX11_here_31 : decode cX11_here 31 = .ok (.aload_n 0, 1) := by decide +kernel
theorem dX11_here_32 : decode cX11_here 32 = .ok (.getfield 125, 3) := by decide +kernel
theorem dX11_here_35 : decode cX11_here 35 = .ok (.isub, 1) := by decide +kernel
theorem dX11_here_36 : decode cX11_here 36 = .ok (.iconst 5, 1) := by decide +kernel
theorem dX11_here_37 : decode cX11_here 37 = .ok (.if_icmp .le 7, 3) := by decide +kernel
theorem dX11_here_40 : decode cX11_here 40 = .ok (.iconst (-1), 1) := by decide +kernel
theorem dX11_here_41 : decode cX11_here 41 = .ok (.goto 17, 3) := by decide +kernel
theorem dX11_here_44 : decode cX11_here 44 = .ok (.bipush 27, 2) := by decide +kernel
theorem dX11_here_46 : decode cX11_here 46 = .ok (.iload_n 1, 1) := by decide +kernel
theorem dX11_here_47 : decode cX11_here 47 = .ok (.imul, 1) := by decide +kernel
theorem dX11_here_48 : decode cX11_here 48 = .ok (.aload_n 0, 1) := by decide +kernel
theorem dX11_here_49 : decode cX11_here 49 = .ok (.getfield 59, 3) := by decide +kernel
theorem dX11_here_52 : decode cX11_here 52 = .ok (.iload_n 2, 1) := by decide +kernel
theorem dX11_here_53 : decode cX11_here 53 = .ok (.iaload, 1) := by decide +kernel
theorem dX11_here_54 : decode cX11_here 54 = .ok (.iadd, 1) := by decide +kernel
theorem dX11_here_55 : decode cX11_here 55 = .ok (.bipush 96, 2) := by decide +kernel
theorem dX11_here_57 : decode cX11_here 57 = .ok (.isub, 1) := by decide +kernel
theorem dX11_here_58 : decode cX11_here 58 = .ok (.istore_n 1, 1) := by decide +kernel
theorem dX11_here_59 : decode cX11_here 59 = .ok (.iinc 2 1, 3) := by decide +kernel
theorem dX11_here_62 : decode cX11_here 62 = .ok (.goto (-55), 3) := by decide +kernel
theorem dX11_here_65 : decode cX11_here 65 = .ok (.iload_n 1, 1) := by decide +kernel
theorem dX11_here_66 : decode cX11_here 66 = .ok (.ireturn, 1) := by decide +kernel
theorem dX11_takes_0 : decode cX11_takes 0 = .ok (.aload_n 0, 1) := by decide +kernel
theorem dX11_takes_1 : decode cX11_takes 1 = .ok (.getfield 131, 3) := by decide +kernel
theorem dX11_takes_4 : decode cX11_takes 4 = .ok (.ifCond .ne 11, 3) := by decide +kernel
theorem dX11_takes_7 : decode cX11_takes 7 = .ok (.aload_n 0, 1) := by decide +kernel
theorem dX11_takes_8 : decode cX11_takes 8 = .ok (.invokevirtual 135, 3) := by decide +kernel
theorem dX11_takes_11 : decode cX11_takes 11 = .ok (.iload_n 1, 1) := by decide +kernel
theorem dX11_takes_12 : decode cX11_takes 12 = .ok (.if_icmp .eq 5, 3) := by decide +kernel
theorem dX11_takes_15 : decode cX11_takes 15 = .ok (.iconst 0, 1) := by decide +kernel
theorem dX11_takes_16 : decode cX11_takes 16 = .ok (.ireturn, 1) := by decide +kernel
theorem dX11_takes_17 : decode cX11_takes 17 = .ok (.aload_n 0, 1) := by decide +kernel
theorem dX11_takes_18 : decode cX11_takes 18 = .ok (.invokevirtual 139, 3) := by decide +kernel
theorem dX11_takes_21 : decode cX11_takes 21 = .ok (.iconst 1, 1) := by decide +kernel
theorem dX11_takes_22 : decode cX11_takes 22 = .ok (.ireturn, 1) := by decide +kernel
theorem dX11_takesSign_0 : decode cX11_takesSign 0 = .ok (.aload_n 0, 1) := by decide +kernel
theorem dX11_takesSign_1 : decode cX11_takesSign 1 = .ok (.getfield 131, 3) := by decide +kernel
theorem dX11_takesSign_4 : decode cX11_takesSign 4 = .ok (.ifCond .ne 16, 3) := by decide +kernel
theorem dX11_takesSign_7 : decode cX11_takesSign 7 = .ok (.aload_n 0, 1) := by decide +kernel
theorem dX11_takesSign_8 : decode cX11_takesSign 8 = .ok (.aload_n 0, 1) := by decide +kernel
theorem dX11_takesSign_9 : decode cX11_takesSign 9 = .ok (.getfield 125, 3) := by decide +kernel
theorem dX11_takesSign_12 : decode cX11_takesSign 12 = .ok (.iload_n 1, 1) := by decide +kernel
theorem dX11_takesSign_13 : decode cX11_takesSign 13 = .ok (.iload_n 1, 1) := by decide +kernel
theorem dX11_takesSign_14 : decode cX11_takesSign 14 = .ok (.invokevirtual 128, 3) := by decide +kernel
theorem dX11_takesSign_17 : decode cX11_takesSign 17 = .ok (.ifCond .ne 5, 3) := by decide +kernel
theorem dX11_takesSign_20 : decode cX11_takesSign 20 = .ok (.iconst 0, 1) := by decide +kernel
theorem dX11_takesSign_21 : decode cX11_takesSign 21 = .ok (.ireturn, 1) := by decide +kernel
theorem dX11_takesSign_22 : decode cX11_takesSign 22 = .ok (.aload_n 0, 1) := by decide +kernel
theorem dX11_takesSign_23 : decode cX11_takesSign 23 = .ok (.invokevirtual 139, 3) := by decide +kernel
theorem dX11_takesSign_26 : decode cX11_takesSign 26 = .ok (.iconst 1, 1) := by decide +kernel
theorem dX11_takesSign_27 : decode cX11_takesSign 27 = .ok (.ireturn, 1) := by decide +kernel
theorem dX11_number_0 : decode cX11_number 0 = .ok (.iconst 0, 1) := by decide +kernel
theorem dX11_number_1 : decode cX11_number 1 = .ok (.istore_n 2, 1) := by decide +kernel
theorem dX11_number_2 : decode cX11_number 2 = .ok (.aload_n 0, 1) := by decide +kernel
theorem dX11_number_3 : decode cX11_number 3 = .ok (.getfield 125, 3) := by decide +kernel
theorem dX11_number_6 : decode cX11_number 6 = .ok (.istore_n 3, 1) := by decide +kernel
theorem dX11_number_7 : decode cX11_number 7 = .ok (.iload_n 3, 1) := by decide +kernel
theorem dX11_number_8 : decode cX11_number 8 = .ok (.aload_n 0, 1) := by decide +kernel
theorem dX11_number_9 : decode cX11_number 9 = .ok (.getfield 122, 3) := by decide +kernel
theorem dX11_number_12 : decode cX11_number 12 = .ok (.if_icmp .ge 52, 3) := by decide +kernel
theorem dX11_number_15 : decode cX11_number 15 = .ok (.iload_n 3, 1) := by decide +kernel
theorem dX11_number_16 : decode cX11_number 16 = .ok (.aload_n 0, 1) := by decide +kernel
theorem dX11_number_17 : decode cX11_number 17 = .ok (.getfield 125, 3) := by decide +kernel
theorem dX11_number_20 : decode cX11_number 20 = .ok (.iconst 3, 1) := by decide +kernel
theorem dX11_number_21 : decode cX11_number 21 = .ok (.iadd, 1) := by decide +kernel
theorem dX11_number_22 : decode cX11_number 22 = .ok (.if_icmp .ge 42, 3) := by decide +kernel
theorem dX11_number_25 : decode cX11_number 25 = .ok (.aload_n 0, 1) := by decide +kernel
theorem dX11_number_26 : decode cX11_number 26 = .ok (.iload_n 3, 1) := by decide +kernel
theorem dX11_number_27 : decode cX11_number 27 = .ok (.bipush 48, 2) := by decide +kernel
theorem dX11_number_29 : decode cX11_number 29 = .ok (.bipush 57, 2) := by decide +kernel
theorem dX11_number_31 : decode cX11_number 31 = .ok (.invokevirtual 128, 3) := by decide +kernel
theorem dX11_number_34 : decode cX11_number 34 = .ok (.ifCond .eq 20, 3) := by decide +kernel
theorem dX11_number_37 : decode cX11_number 37 = .ok (.bipush 10, 2) := by decide +kernel
theorem dX11_number_39 : decode cX11_number 39 = .ok (.iload_n 2, 1) := by decide +kernel
theorem dX11_number_40 : decode cX11_number 40 = .ok (.imul, 1) := by decide +kernel
theorem dX11_number_41 : decode cX11_number 41 = .ok (.aload_n 0, 1) := by decide +kernel
theorem dX11_number_42 : decode cX11_number 42 = .ok (.getfield 59, 3) := by decide +kernel
theorem dX11_number_45 : decode cX11_number 45 = .ok (.iload_n 3, 1) := by decide +kernel
theorem dX11_number_46 : decode cX11_number 46 = .ok (.iaload, 1) := by decide +kernel
theorem dX11_number_47 : decode cX11_number 47 = .ok (.iadd, 1) := by decide +kernel
theorem dX11_number_48 : decode cX11_number 48 = .ok (.bipush 48, 2) := by decide +kernel
theorem dX11_number_50 : decode cX11_number 50 = .ok (.isub, 1) := by decide +kernel
theorem dX11_number_51 : decode cX11_number 51 = .ok (.goto 6, 3) := by decide +kernel
theorem dX11_number_54 : decode cX11_number 54 = .ok (.sipush (-1000), 3) := by decide +kernel
theorem dX11_number_57 : decode cX11_number 57 = .ok (.istore_n 2, 1) := by decide +kernel
theorem dX11_number_58 : decode cX11_number 58 = .ok (.iinc 3 1, 3) := by decide +kernel
theorem dX11_number_61 : decode cX11_number 61 = .ok (.goto (-54), 3) := by decide +kernel
theorem dX11_number_64 : decode cX11_number 64 = .ok (.aload_n 0, 1) := by decide +kernel
theorem dX11_number_65 : decode cX11_number 65 = .ok (.aload_n 0, 1) := by decide +kernel
theorem dX11_number_66 : decode cX11_number 66 = .ok (.getfield 131, 3) := by decide +kernel
theorem dX11_number_69 : decode cX11_number 69 = .ok (.ifCond .ne 32, 3) := by decide +kernel
theorem dX11_number_72 : decode cX11_number 72 = .ok (.aload_n 0, 1) := by decide +kernel
theorem dX11_number_73 : decode cX11_number 73 = .ok (.getfield 122, 3) := by decide +kernel
theorem dX11_number_76 : decode cX11_number 76 = .ok (.aload_n 0, 1) := by decide +kernel
theorem dX11_number_77 : decode cX11_number 77 = .ok (.getfield 125, 3) := by decide +kernel
theorem dX11_number_80 : decode cX11_number 80 = .ok (.if_icmp .eq 21, 3) := by decide +kernel
theorem dX11_number_83 : decode cX11_number 83 = .ok (.aload_n 0, 1) := by decide +kernel
theorem dX11_number_84 : decode cX11_number 84 = .ok (.getfield 122, 3) := by decide +kernel
theorem dX11_number_87 : decode cX11_number 87 = .ok (.aload_n 0, 1) := by decide +kernel
theorem dX11_number_88 : decode cX11_number 88 = .ok (.getfield 125, 3) := by decide +kernel
theorem dX11_number_91 : decode cX11_number 91 = .ok (.isub, 1) := by decide +kernel
theorem dX11_number_92 : decode cX11_number 92 = .ok (.iconst 2, 1) := by decide +kernel
theorem dX11_number_93 : decode cX11_number 93 = .ok (.if_icmp .gt 8, 3) := by decide +kernel
theorem dX11_number_96 : decode cX11_number 96 = .ok (.iload_n 2, 1) := by decide +kernel
theorem dX11_number_97 : decode cX11_number 97 = .ok (.iload_n 1, 1) := by decide +kernel
theorem dX11_number_98 : decode cX11_number 98 = .ok (.if_icmp .ge 7, 3) := by decide +kernel
theorem dX11_number_101 : decode cX11_number 101 = .ok (.iconst 1, 1) := by decide +kernel
theorem dX11_number_102 : decode cX11_number 102 = .ok (.goto 4, 3) := by decide +kernel
theorem dX11_number_105 : decode cX11_number 105 = .ok (.iconst 0, 1) := by decide +kernel
theorem dX11_number_106 : decode cX11_number 106 = .ok (.putfield 131, 3) := by decide +kernel
theorem dX11_number_109 : decode cX11_number 109 = .ok (.aload_n 0, 1) := by decide +kernel
theorem dX11_number_110 : decode cX11_number 110 = .ok (.getfield 131, 3) := by decide +kernel
theorem dX11_number_113 : decode cX11_number 113 = .ok (.ifCond .ne 7, 3) := by decide +kernel
theorem dX11_number_116 : decode cX11_number 116 = .ok (.aload_n 0, 1) := by decide +kernel
theorem dX11_number_117 : decode cX11_number 117 = .ok (.invokevirtual 139, 3) := by decide +kernel
theorem dX11_number_120 : decode cX11_number 120 = .ok (.iload_n 2, 1) := by decide +kernel
theorem dX11_number_121 : decode cX11_number 121 = .ok (.ireturn, 1) := by decide +kernel
theorem dX11_multiples_0 : decode cX11_multiples 0 = .ok (.lconst 0, 1) := by decide +kernel
theorem dX11_multiples_1 : decode cX11_multiples 1 = .ok (.lstore_n 1, 1) := by decide +kernel
theorem dX11_multiples_2 : decode cX11_multiples 2 = .ok (.iconst 0, 1) := by decide +kernel
theorem dX11_multiples_3 : decode cX11_multiples 3 = .ok (.istore_n 3, 1) := by decide +kernel
theorem dX11_multiples_4 : decode cX11_multiples 4 = .ok (.iload_n 3, 1) := by decide +kernel
theorem dX11_multiples_5 : decode cX11_multiples 5 = .ok (.bipush 60, 2) := by decide +kernel
theorem dX11_multiples_7 : decode cX11_multiples 7 = .ok (.if_icmp .gt 20, 3) := by decide +kernel
theorem dX11_multiples_10 : decode cX11_multiples 10 = .ok (.iload_n 0, 1) := by decide +kernel
theorem dX11_multiples_11 : decode cX11_multiples 11 = .ok (.ifCond .le 16, 3) := by decide +kernel
theorem dX11_multiples_14 : decode cX11_multiples 14 = .ok (.lload_n 1, 1) := by decide +kernel
theorem dX11_multiples_15 : decode cX11_multiples 15 = .ok (.lconst 1, 1) := by decide +kernel
theorem dX11_multiples_16 : decode cX11_multiples 16 = .ok (.iload_n 3, 1) := by decide +kernel
theorem dX11_multiples_17 : decode cX11_multiples 17 = .ok (.lshl, 1) := by decide +kernel
theorem dX11_multiples_18 : decode cX11_multiples 18 = .ok (.lor, 1) := by decide +kernel
theorem dX11_multiples_19 : decode cX11_multiples 19 = .ok (.lstore_n 1, 1) := by decide +kernel
theorem dX11_multiples_20 : decode cX11_multiples 20 = .ok (.iload_n 3, 1) := by decide +kernel
theorem dX11_multiples_21 : decode cX11_multiples 21 = .ok (.iload_n 0, 1) := by decide +kernel
theorem dX11_multiples_22 : decode cX11_multiples 22 = .ok (.iadd, 1) := by decide +kernel
theorem dX11_multiples_23 : decode cX11_multiples 23 = .ok (.istore_n 3, 1) := by decide +kernel
theorem dX11_multiples_24 : decode cX11_multiples 24 = .ok (.goto (-20), 3) := by decide +kernel
theorem dX11_multiples_27 : decode cX11_multiples 27 = .ok (.lload_n 1, 1) := by decide +kernel
theorem dX11_multiples_28 : decode cX11_multiples 28 = .ok (.lreturn, 1) := by decide +kernel
theorem dX11_upTo_0 : decode cX11_upTo 0 = .ok (.iload_n 0, 1) := by decide +kernel
theorem dX11_upTo_1 : decode cX11_upTo 1 = .ok (.bipush 60, 2) := by decide +kernel
theorem dX11_upTo_3 : decode cX11_upTo 3 = .ok (.if_icmp .lt 9, 3) := by decide +kernel
theorem dX11_upTo_6 : decode cX11_upTo 6 = .ok (.ldc2_w 99, 3) := by decide +kernel
theorem dX11_upTo_9 : decode cX11_upTo 9 = .ok (.goto 18, 3) := by decide +kernel
theorem dX11_upTo_12 : decode cX11_upTo 12 = .ok (.iload_n 0, 1) := by decide +kernel
theorem dX11_upTo_13 : decode cX11_upTo 13 = .ok (.ifCond .ge 7, 3) := by decide +kernel
theorem dX11_upTo_16 : decode cX11_upTo 16 = .ok (.lconst 0, 1) := by decide +kernel
theorem dX11_upTo_17 : decode cX11_upTo 17 = .ok (.goto 10, 3) := by decide +kernel
theorem dX11_upTo_20 : decode cX11_upTo 20 = .ok (.lconst 1, 1) := by decide +kernel
theorem dX11_upTo_21 : decode cX11_upTo 21 = .ok (.iload_n 0, 1) := by decide +kernel
theorem dX11_upTo_22 : decode cX11_upTo 22 = .ok (.iconst 1, 1) := by decide +kernel
theorem dX11_upTo_23 : decode cX11_upTo 23 = .ok (.iadd, 1) := by decide +kernel
theorem dX11_upTo_24 : decode cX11_upTo 24 = .ok (.lshl, 1) := by decide +kernel
theorem dX11_upTo_25 : decode cX11_upTo 25 = .ok (.lconst 1, 1) := by decide +kernel
theorem dX11_upTo_26 : decode cX11_upTo 26 = .ok (.lsub, 1) := by decide +kernel
theorem dX11_upTo_27 : decode cX11_upTo 27 = .ok (.lreturn, 1) := by decide +kernel
theorem dX11_one_0 : decode cX11_one 0 = .ok (.aload_n 0, 1) := by decide +kernel
theorem dX11_one_1 : decode cX11_one 1 = .ok (.sipush 10631, 3) := by decide +kernel
theorem dX11_one_4 : decode cX11_one 4 = .ok (.invokevirtual 142, 3) := by decide +kernel
theorem dX11_one_7 : decode cX11_one 7 = .ok (.ifCond .eq 17, 3) := by decide +kernel
theorem dX11_one_10 : decode cX11_one 10 = .ok (.ldc2_w 99, 3) := by decide +kernel
theorem dX11_one_13 : decode cX11_one 13 = .ok (.aload_n 0, 1) := by decide +kernel
theorem dX11_one_14 : decode cX11_one 14 = .ok (.iload_n 1, 1) := by decide +kernel
theorem dX11_one_15 : decode cX11_one 15 = .ok (.invokevirtual 145, 3) := by decide +kernel
theorem dX11_one_18 : decode cX11_one 18 = .ok (.ldc2_w 149, 3) := by decide +kernel
theorem dX11_one_21 : decode cX11_one 21 = .ok (.lxor, 1) := by decide +kernel
theorem dX11_one_22 : decode cX11_one 22 = .ok (.land, 1) := by decide +kernel
theorem dX11_one_23 : decode cX11_one 23 = .ok (.lreturn, 1) := by decide +kernel
theorem dX11_one_24 : decode cX11_one 24 = .ok (.aload_n 0, 1) := by decide +kernel
theorem dX11_one_25 : decode cX11_one 25 = .ok (.sipush 1132, 3) := by decide +kernel
theorem dX11_one_28 : decode cX11_one 28 = .ok (.invokevirtual 142, 3) := by decide +kernel
theorem dX11_one_31 : decode cX11_one 31 = .ok (.ifCond .eq 7, 3) := by decide +kernel
theorem dX11_one_34 : decode cX11_one 34 = .ok (.ldc2_w 99, 3) := by decide +kernel
theorem dX11_one_37 : decode cX11_one 37 = .ok (.lreturn, 1) := by decide +kernel
theorem dX11_one_38 : decode cX11_one 38 = .ok (.aload_n 0, 1) := by decide +kernel
theorem dX11_one_39 : decode cX11_one 39 = .ok (.ldc 151, 2) := by decide +kernel
theorem dX11_one_41 : decode cX11_one 41 = .ok (.invokevirtual 142, 3) := by decide +kernel
theorem dX11_one_44 : decode cX11_one 44 = .ok (.ifCond .eq 12, 3) := by decide +kernel
theorem dX11_one_47 : decode cX11_one 47 = .ok (.aload_n 0, 1) := by decide +kernel
theorem dX11_one_48 : decode cX11_one 48 = .ok (.iconst 0, 1) := by decide +kernel
theorem dX11_one_49 : decode cX11_one 49 = .ok (.invokevirtual 152, 3) := by decide +kernel
theorem dX11_one_52 : decode cX11_one 52 = .ok (.invokestatic 155, 3) := by decide +kernel
theorem dX11_one_55 : decode cX11_one 55 = .ok (.lreturn, 1) := by decide +kernel
theorem dX11_one_56 : decode cX11_one 56 = .ok (.aload_n 0, 1) := by decide +kernel
theorem dX11_one_57 : decode cX11_one 57 = .ok (.ldc 158, 2) := by decide +kernel
theorem dX11_one_59 : decode cX11_one 59 = .ok (.invokevirtual 142, 3) := by decide +kernel
theorem dX11_one_62 : decode cX11_one 62 = .ok (.ifCond .eq 22, 3) := by decide +kernel
theorem dX11_one_65 : decode cX11_one 65 = .ok (.ldc2_w 99, 3) := by decide +kernel
theorem dX11_one_68 : decode cX11_one 68 = .ok (.aload_n 0, 1) := by decide +kernel
theorem dX11_one_69 : decode cX11_one 69 = .ok (.iconst 0, 1) := by decide +kernel
theorem dX11_one_70 : decode cX11_one 70 = .ok (.invokevirtual 152, 3) := by decide +kernel
theorem dX11_one_73 : decode cX11_one 73 = .ok (.iconst 1, 1) := by decide +kernel
theorem dX11_one_74 : decode cX11_one 74 = .ok (.isub, 1) := by decide +kernel
theorem dX11_one_75 : decode cX11_one 75 = .ok (.invokestatic 155, 3) := by decide +kernel
theorem dX11_one_78 : decode cX11_one 78 = .ok (.ldc2_w 149, 3) := by decide +kernel
theorem dX11_one_81 : decode cX11_one 81 = .ok (.lxor, 1) := by decide +kernel
theorem dX11_one_82 : decode cX11_one 82 = .ok (.land, 1) := by decide +kernel
theorem dX11_one_83 : decode cX11_one 83 = .ok (.lreturn, 1) := by decide +kernel
theorem dX11_one_84 : decode cX11_one 84 = .ok (.aload_n 0, 1) := by decide +kernel
theorem dX11_one_85 : decode cX11_one 85 = .ok (.bipush 79, 2) := by decide +kernel
theorem dX11_one_87 : decode cX11_one 87 = .ok (.invokevirtual 142, 3) := by decide +kernel
theorem dX11_one_90 : decode cX11_one 90 = .ok (.ifCond .eq 12, 3) := by decide +kernel
theorem dX11_one_93 : decode cX11_one 93 = .ok (.aload_n 0, 1) := by decide +kernel
theorem dX11_one_94 : decode cX11_one 94 = .ok (.iconst 1, 1) := by decide +kernel
theorem dX11_one_95 : decode cX11_one 95 = .ok (.invokevirtual 152, 3) := by decide +kernel
theorem dX11_one_98 : decode cX11_one 98 = .ok (.invokestatic 159, 3) := by decide +kernel
theorem dX11_one_101 : decode cX11_one 101 = .ok (.lreturn, 1) := by decide +kernel
theorem dX11_one_102 : decode cX11_one 102 = .ok (.aload_n 0, 1) := by decide +kernel
theorem dX11_one_103 : decode cX11_one 103 = .ok (.sipush 262, 3) := by decide +kernel
theorem dX11_one_106 : decode cX11_one 106 = .ok (.invokevirtual 142, 3) := by decide +kernel
theorem dX11_one_109 : decode cX11_one 109 = .ok (.ifCond .eq 27, 3) := by decide +kernel
theorem dX11_one_112 : decode cX11_one 112 = .ok (.aload_n 0, 1) := by decide +kernel
theorem dX11_one_113 : decode cX11_one 113 = .ok (.iconst 0, 1) := by decide +kernel
theorem dX11_one_114 : decode cX11_one 114 = .ok (.invokevirtual 152, 3) := by decide +kernel
theorem dX11_one_117 : decode cX11_one 117 = .ok (.istore_n 2, 1) := by decide +kernel
theorem dX11_one_118 : decode cX11_one 118 = .ok (.iload_n 2, 1) := by decide +kernel
theorem dX11_one_119 : decode cX11_one 119 = .ok (.iconst 0, 1) := by decide +kernel
theorem dX11_one_120 : decode cX11_one 120 = .ok (.bipush 60, 2) := by decide +kernel
theorem dX11_one_122 : decode cX11_one 122 = .ok (.invokestatic 89, 3) := by decide +kernel
theorem dX11_one_125 : decode cX11_one 125 = .ok (.ifCond .eq 9, 3) := by decide +kernel
theorem dX11_one_128 : decode cX11_one 128 = .ok (.lconst 1, 1) := by decide +kernel
theorem dX11_one_129 : decode cX11_one 129 = .ok (.iload_n 2, 1) := by decide +kernel
theorem dX11_one_130 : decode cX11_one 130 = .ok (.lshl, 1) := by decide +kernel
theorem dX11_one_131 : decode cX11_one 131 = .ok (.goto 4, 3) := by decide +kernel
theorem dX11_one_134 : decode cX11_one 134 = .ok (.lconst 0, 1) := by decide +kernel
theorem dX11_one_135 : decode cX11_one 135 = .ok (.lreturn, 1) := by decide +kernel
theorem dX11_one_136 : decode cX11_one 136 = .ok (.iload_n 1, 1) := by decide +kernel
theorem dX11_one_137 : decode cX11_one 137 = .ok (.iconst 4, 1) := by decide +kernel
theorem dX11_one_138 : decode cX11_one 138 = .ok (.if_icmp .ge 47, 3) := by decide +kernel
theorem dX11_one_141 : decode cX11_one 141 = .ok (.aload_n 0, 1) := by decide +kernel
theorem dX11_one_142 : decode cX11_one 142 = .ok (.bipush 40, 2) := by decide +kernel
theorem dX11_one_144 : decode cX11_one 144 = .ok (.invokevirtual 162, 3) := by decide +kernel
theorem dX11_one_147 : decode cX11_one 147 = .ok (.ifCond .eq 38, 3) := by decide +kernel
theorem dX11_one_150 : decode cX11_one 150 = .ok (.aload_n 0, 1) := by decide +kernel
theorem dX11_one_151 : decode cX11_one 151 = .ok (.iload_n 1, 1) := by decide +kernel
theorem dX11_one_152 : decode cX11_one 152 = .ok (.iconst 1, 1) := by decide +kernel
theorem dX11_one_153 : decode cX11_one 153 = .ok (.iadd, 1) := by decide +kernel
theorem dX11_one_154 : decode cX11_one 154 = .ok (.invokevirtual 165, 3) := by decide +kernel
theorem dX11_one_157 : decode cX11_one 157 = .ok (.lstore_n 2, 1) := by decide +kernel
theorem dX11_one_158 : decode cX11_one 158 = .ok (.aload_n 0, 1) := by decide +kernel
theorem dX11_one_159 : decode cX11_one 159 = .ok (.aload_n 0, 1) := by decide +kernel
theorem dX11_one_160 : decode cX11_one 160 = .ok (.getfield 131, 3) := by decide +kernel
theorem dX11_one_163 : decode cX11_one 163 = .ok (.ifCond .ne 12, 3) := by decide +kernel
theorem dX11_one_166 : decode cX11_one 166 = .ok (.aload_n 0, 1) := by decide +kernel
theorem dX11_one_167 : decode cX11_one 167 = .ok (.bipush 41, 2) := by decide +kernel
theorem dX11_one_169 : decode cX11_one 169 = .ok (.invokevirtual 162, 3) := by decide +kernel
theorem dX11_one_172 : decode cX11_one 172 = .ok (.ifCond .ne 7, 3) := by decide +kernel
theorem dX11_one_175 : decode cX11_one 175 = .ok (.iconst 1, 1) := by decide +kernel
theorem dX11_one_176 : decode cX11_one 176 = .ok (.goto 4, 3) := by decide +kernel
theorem dX11_one_179 : decode cX11_one 179 = .ok (.iconst 0, 1) := by decide +kernel
theorem dX11_one_180 : decode cX11_one 180 = .ok (.putfield 131, 3) := by decide +kernel
theorem dX11_one_183 : decode cX11_one 183 = .ok (.lload_n 2, 1) := by decide +kernel
theorem dX11_one_184 : decode cX11_one 184 = .ok (.lreturn, 1) := by decide +kernel
theorem dX11_one_185 : decode cX11_one 185 = .ok (.aload_n 0, 1) := by decide +kernel
theorem dX11_one_186 : decode cX11_one 186 = .ok (.iconst 1, 1) := by decide +kernel
theorem dX11_one_187 : decode cX11_one 187 = .ok (.putfield 131, 3) := by decide +kernel
theorem dX11_one_190 : decode cX11_one 190 = .ok (.lconst 0, 1) := by decide +kernel
theorem dX11_one_191 : decode cX11_one 191 = .ok (.lreturn, 1) := by decide +kernel
theorem dX11_every_0 : decode cX11_every 0 = .ok (.aload_n 0, 1) := by decide +kernel
theorem dX11_every_1 : decode cX11_every 1 = .ok (.iload_n 1, 1) := by decide +kernel
theorem dX11_every_2 : decode cX11_every 2 = .ok (.invokevirtual 145, 3) := by decide +kernel
theorem dX11_every_5 : decode cX11_every 5 = .ok (.lstore_n 2, 1) := by decide +kernel
theorem dX11_every_6 : decode cX11_every 6 = .ok (.aload_n 0, 1) := by decide +kernel
theorem dX11_every_7 : decode cX11_every 7 = .ok (.sipush 1111, 3) := by decide +kernel
theorem dX11_every_10 : decode cX11_every 10 = .ok (.invokevirtual 142, 3) := by decide +kernel
theorem dX11_every_13 : decode cX11_every 13 = .ok (.ifCond .eq 14, 3) := by decide +kernel
theorem dX11_every_16 : decode cX11_every 16 = .ok (.lload_n 2, 1) := by decide +kernel
theorem dX11_every_17 : decode cX11_every 17 = .ok (.aload_n 0, 1) := by decide +kernel
theorem dX11_every_18 : decode cX11_every 18 = .ok (.iload_n 1, 1) := by decide +kernel
theorem dX11_every_19 : decode cX11_every 19 = .ok (.invokevirtual 145, 3) := by decide +kernel
theorem dX11_every_22 : decode cX11_every 22 = .ok (.land, 1) := by decide +kernel
theorem dX11_every_23 : decode cX11_every 23 = .ok (.lstore_n 2, 1) := by decide +kernel
theorem dX11_every_24 : decode cX11_every 24 = .ok (.goto (-18), 3) := by decide +kernel
theorem dX11_every_27 : decode cX11_every 27 = .ok (.lload_n 2, 1) := by decide +kernel
theorem dX11_every_28 : decode cX11_every 28 = .ok (.lreturn, 1) := by decide +kernel
theorem dX11_some_0 : decode cX11_some 0 = .ok (.aload_n 0, 1) := by decide +kernel
theorem dX11_some_1 : decode cX11_some 1 = .ok (.iload_n 1, 1) := by decide +kernel
theorem dX11_some_2 : decode cX11_some 2 = .ok (.invokevirtual 168, 3) := by decide +kernel
theorem dX11_some_5 : decode cX11_some 5 = .ok (.lstore_n 2, 1) := by decide +kernel
theorem dX11_some_6 : decode cX11_some 6 = .ok (.aload_n 0, 1) := by decide +kernel
theorem dX11_some_7 : decode cX11_some 7 = .ok (.sipush 423, 3) := by decide +kernel
theorem dX11_some_10 : decode cX11_some 10 = .ok (.invokevirtual 142, 3) := by decide +kernel
theorem dX11_some_13 : decode cX11_some 13 = .ok (.ifCond .eq 14, 3) := by decide +kernel
theorem dX11_some_16 : decode cX11_some 16 = .ok (.lload_n 2, 1) := by decide +kernel
theorem dX11_some_17 : decode cX11_some 17 = .ok (.aload_n 0, 1) := by decide +kernel
theorem dX11_some_18 : decode cX11_some 18 = .ok (.iload_n 1, 1) := by decide +kernel
theorem dX11_some_19 : decode cX11_some 19 = .ok (.invokevirtual 168, 3) := by decide +kernel
theorem dX11_some_22 : decode cX11_some 22 = .ok (.lor, 1) := by decide +kernel
theorem dX11_some_23 : decode cX11_some 23 = .ok (.lstore_n 2, 1) := by decide +kernel
theorem dX11_some_24 : decode cX11_some 24 = .ok (.goto (-18), 3) := by decide +kernel
theorem dX11_some_27 : decode cX11_some 27 = .ok (.lload_n 2, 1) := by decide +kernel
theorem dX11_some_28 : decode cX11_some 28 = .ok (.lreturn, 1) := by decide +kernel
theorem dX11_rule_0 : decode cX11_rule 0 = .ok (.aload_n 0, 1) := by decide +kernel
theorem dX11_rule_1 : decode cX11_rule 1 = .ok (.iload_n 1, 1) := by decide +kernel
theorem dX11_rule_2 : decode cX11_rule 2 = .ok (.invokevirtual 105, 3) := by decide +kernel
theorem dX11_rule_5 : decode cX11_rule 5 = .ok (.ifCond .ne 5, 3) := by decide +kernel
theorem dX11_rule_8 : decode cX11_rule 8 = .ok (.iconst (-1), 1) := by decide +kernel
theorem dX11_rule_9 : decode cX11_rule 9 = .ok (.ireturn, 1) := by decide +kernel
theorem dX11_rule_10 : decode cX11_rule 10 = .ok (.aload_n 0, 1) := by decide +kernel
theorem dX11_rule_11 : decode cX11_rule 11 = .ok (.iconst 0, 1) := by decide +kernel
theorem dX11_rule_12 : decode cX11_rule 12 = .ok (.putfield 122, 3) := by decide +kernel
theorem dX11_rule_15 : decode cX11_rule 15 = .ok (.aload_n 0, 1) := by decide +kernel
theorem dX11_rule_16 : decode cX11_rule 16 = .ok (.iconst 0, 1) := by decide +kernel
theorem dX11_rule_17 : decode cX11_rule 17 = .ok (.putfield 131, 3) := by decide +kernel
theorem dX11_rule_20 : decode cX11_rule 20 = .ok (.aload_n 0, 1) := by decide +kernel
theorem dX11_rule_21 : decode cX11_rule 21 = .ok (.invokevirtual 139, 3) := by decide +kernel
theorem dX11_rule_24 : decode cX11_rule 24 = .ok (.aload_n 0, 1) := by decide +kernel
theorem dX11_rule_25 : decode cX11_rule 25 = .ok (.iconst 0, 1) := by decide +kernel
theorem dX11_rule_26 : decode cX11_rule 26 = .ok (.invokevirtual 165, 3) := by decide +kernel
theorem dX11_rule_29 : decode cX11_rule 29 = .ok (.lstore_n 2, 1) := by decide +kernel
theorem dX11_rule_30 : decode cX11_rule 30 = .ok (.aload_n 0, 1) := by decide +kernel
theorem dX11_rule_31 : decode cX11_rule 31 = .ok (.aload_n 0, 1) := by decide +kernel
theorem dX11_rule_32 : decode cX11_rule 32 = .ok (.getfield 131, 3) := by decide +kernel
theorem dX11_rule_35 : decode cX11_rule 35 = .ok (.ifCond .ne 14, 3) := by decide +kernel
theorem dX11_rule_38 : decode cX11_rule 38 = .ok (.aload_n 0, 1) := by decide +kernel
theorem dX11_rule_39 : decode cX11_rule 39 = .ok (.getfield 125, 3) := by decide +kernel
theorem dX11_rule_42 : decode cX11_rule 42 = .ok (.aload_n 0, 1) := by decide +kernel
theorem dX11_rule_43 : decode cX11_rule 43 = .ok (.getfield 117, 3) := by decide +kernel
theorem dX11_rule_46 : decode cX11_rule 46 = .ok (.if_icmp .ge 7, 3) := by decide +kernel
theorem dX11_rule_49 : decode cX11_rule 49 = .ok (.iconst 1, 1) := by decide +kernel
theorem dX11_rule_50 : decode cX11_rule 50 = .ok (.goto 4, 3) := by decide +kernel
theorem dX11_rule_53 : decode cX11_rule 53 = .ok (.iconst 0, 1) := by decide +kernel
theorem dX11_rule_54 : decode cX11_rule 54 = .ok (.putfield 131, 3) := by decide +kernel
theorem dX11_rule_57 : decode cX11_rule 57 = .ok (.aload_n 0, 1) := by decide +kernel
theorem dX11_rule_58 : decode cX11_rule 58 = .ok (.iconst 0, 1) := by decide +kernel
theorem dX11_rule_59 : decode cX11_rule 59 = .ok (.putfield 117, 3) := by decide +kernel
theorem dX11_rule_62 : decode cX11_rule 62 = .ok (.aload_n 0, 1) := by decide +kernel
theorem dX11_rule_63 : decode cX11_rule 63 = .ok (.getfield 131, 3) := by decide +kernel
theorem dX11_rule_66 : decode cX11_rule 66 = .ok (.ifCond .eq 11, 3) := by decide +kernel
theorem dX11_rule_69 : decode cX11_rule 69 = .ok (.bipush (-100), 2) := by decide +kernel
theorem dX11_rule_71 : decode cX11_rule 71 = .ok (.aload_n 0, 1) := by decide +kernel
theorem dX11_rule_72 : decode cX11_rule 72 = .ok (.getfield 125, 3) := by decide +kernel
theorem dX11_rule_75 : decode cX11_rule 75 = .ok (.isub, 1) := by decide +kernel
theorem dX11_rule_76 : decode cX11_rule 76 = .ok (.ireturn, 1) := by decide +kernel
theorem dX11_rule_77 : decode cX11_rule 77 = .ok (.aload_n 0, 1) := by decide +kernel
theorem dX11_rule_78 : decode cX11_rule 78 = .ok (.iconst 3, 1) := by decide +kernel
theorem dX11_rule_79 : decode cX11_rule 79 = .ok (.iload_n 1, 1) := by decide +kernel
theorem dX11_rule_80 : decode cX11_rule 80 = .ok (.invokevirtual 96, 3) := by decide +kernel
theorem dX11_rule_83 : decode cX11_rule 83 = .ok (.aload_n 0, 1) := by decide +kernel
theorem dX11_rule_84 : decode cX11_rule 84 = .ok (.getfield 25, 3) := by decide +kernel
theorem dX11_rule_87 : decode cX11_rule 87 = .ok (.iload_n 1, 1) := by decide +kernel
theorem dX11_rule_88 : decode cX11_rule 88 = .ok (.lload_n 2, 1) := by decide +kernel
theorem dX11_rule_89 : decode cX11_rule 89 = .ok (.lastore, 1) := by decide +kernel
theorem dX11_rule_90 : decode cX11_rule 90 = .ok (.lload_n 2, 1) := by decide +kernel
theorem dX11_rule_91 : decode cX11_rule 91 = .ok (.invokestatic 113, 3) := by decide +kernel
theorem dX11_rule_94 : decode cX11_rule 94 = .ok (.ireturn, 1) := by decide +kernel
theorem dX11_lets_0 : decode cX11_lets 0 = .ok (.aload_n 0, 1) := by decide +kernel
theorem dX11_lets_1 : decode cX11_lets 1 = .ok (.iload_n 1, 1) := by decide +kernel
theorem dX11_lets_2 : decode cX11_lets 2 = .ok (.invokevirtual 105, 3) := by decide +kernel
theorem dX11_lets_5 : decode cX11_lets 5 = .ok (.ifCond .eq 27, 3) := by decide +kernel
theorem dX11_lets_8 : decode cX11_lets 8 = .ok (.iload_n 2, 1) := by decide +kernel
theorem dX11_lets_9 : decode cX11_lets 9 = .ok (.iconst 0, 1) := by decide +kernel
theorem dX11_lets_10 : decode cX11_lets 10 = .ok (.bipush 60, 2) := by decide +kernel
theorem dX11_lets_12 : decode cX11_lets 12 = .ok (.invokestatic 89, 3) := by decide +kernel
theorem dX11_lets_15 : decode cX11_lets 15 = .ok (.ifCond .eq 17, 3) := by decide +kernel
theorem dX11_lets_18 : decode cX11_lets 18 = .ok (.aload_n 0, 1) := by decide +kernel
theorem dX11_lets_19 : decode cX11_lets 19 = .ok (.getfield 25, 3) := by decide +kernel
theorem dX11_lets_22 : decode cX11_lets 22 = .ok (.iload_n 1, 1) := by decide +kernel
theorem dX11_lets_23 : decode cX11_lets 23 = .ok (.laload, 1) := by decide +kernel
theorem dX11_lets_24 : decode cX11_lets 24 = .ok (.iload_n 2, 1) := by decide +kernel
theorem dX11_lets_25 : decode cX11_lets 25 = .ok (.lshr, 1) := by decide +kernel
theorem dX11_lets_26 : decode cX11_lets 26 = .ok (.lconst 1, 1) := by decide +kernel
theorem dX11_lets_27 : decode cX11_lets 27 = .ok (.land, 1) := by decide +kernel
theorem dX11_lets_28 : decode cX11_lets 28 = .ok (.l2i, 1) := by decide +kernel
theorem dX11_lets_29 : decode cX11_lets 29 = .ok (.goto 4, 3) := by decide +kernel
theorem dX11_lets_32 : decode cX11_lets 32 = .ok (.iconst (-1), 1) := by decide +kernel
theorem dX11_lets_33 : decode cX11_lets 33 = .ok (.ireturn, 1) := by decide +kernel
theorem dX11_place_0 : decode cX11_place 0 = .ok (.iload_n 0, 1) := by decide +kernel
theorem dX11_place_1 : decode cX11_place 1 = .ok (.bipush 61, 2) := by decide +kernel
theorem dX11_place_3 : decode cX11_place 3 = .ok (.imul, 1) := by decide +kernel
theorem dX11_place_4 : decode cX11_place 4 = .ok (.iload_n 2, 1) := by decide +kernel
theorem dX11_place_5 : decode cX11_place 5 = .ok (.iadd, 1) := by decide +kernel
theorem dX11_place_6 : decode cX11_place 6 = .ok (.bipush 61, 2) := by decide +kernel
theorem dX11_place_8 : decode cX11_place 8 = .ok (.imul, 1) := by decide +kernel
theorem dX11_place_9 : decode cX11_place 9 = .ok (.iload_n 1, 1) := by decide +kernel
theorem dX11_place_10 : decode cX11_place 10 = .ok (.iadd, 1) := by decide +kernel
theorem dX11_place_11 : decode cX11_place 11 = .ok (.ireturn, 1) := by decide +kernel
theorem dX11_isPoint_0 : decode cX11_isPoint 0 = .ok (.iload_n 0, 1) := by decide +kernel
theorem dX11_isPoint_1 : decode cX11_isPoint 1 = .ok (.iconst 0, 1) := by decide +kernel
theorem dX11_isPoint_2 : decode cX11_isPoint 2 = .ok (.iload_n 2, 1) := by decide +kernel
theorem dX11_isPoint_3 : decode cX11_isPoint 3 = .ok (.invokestatic 89, 3) := by decide +kernel
theorem dX11_isPoint_6 : decode cX11_isPoint 6 = .ok (.ifCond .eq 16, 3) := by decide +kernel
theorem dX11_isPoint_9 : decode cX11_isPoint 9 = .ok (.iload_n 1, 1) := by decide +kernel
theorem dX11_isPoint_10 : decode cX11_isPoint 10 = .ok (.iconst 0, 1) := by decide +kernel
theorem dX11_isPoint_11 : decode cX11_isPoint 11 = .ok (.iload_n 2, 1) := by decide +kernel
theorem dX11_isPoint_12 : decode cX11_isPoint 12 = .ok (.invokestatic 89, 3) := by decide +kernel
theorem dX11_isPoint_15 : decode cX11_isPoint 15 = .ok (.ifCond .eq 7, 3) := by decide +kernel
theorem dX11_isPoint_18 : decode cX11_isPoint 18 = .ok (.iconst 1, 1) := by decide +kernel
theorem dX11_isPoint_19 : decode cX11_isPoint 19 = .ok (.goto 4, 3) := by decide +kernel
theorem dX11_isPoint_22 : decode cX11_isPoint 22 = .ok (.iconst 0, 1) := by decide +kernel
theorem dX11_isPoint_23 : decode cX11_isPoint 23 = .ok (.ireturn, 1) := by decide +kernel
theorem dX11_count_0 : decode cX11_count 0 = .ok (.iconst 0, 1) := by decide +kernel
theorem dX11_count_1 : decode cX11_count 1 = .ok (.istore_n 3, 1) := by decide +kernel
theorem dX11_count_2 : decode cX11_count 2 = .ok (.iload_n 3, 1) := by decide +kernel
theorem dX11_count_3 : decode cX11_count 3 = .ok (.iload_n 2, 1) := by decide +kernel
theorem dX11_count_4 : decode cX11_count 4 = .ok (.if_icmp .gt 53, 3) := by decide +kernel
theorem dX11_count_7 : decode cX11_count 7 = .ok (.iconst 0, 1) := by decide +kernel
theorem dX11_count_8 : decode cX11_count 8 = .ok (.istore 4, 2) := by decide +kernel
theorem dX11_count_10 : decode cX11_count 10 = .ok (.iload 4, 2) := by decide +kernel
theorem dX11_count_12 : decode cX11_count 12 = .ok (.iload_n 1, 1) := by decide +kernel
theorem dX11_count_13 : decode cX11_count 13 = .ok (.if_icmp .gt 38, 3) := by decide +kernel
theorem dX11_count_16 : decode cX11_count 16 = .ok (.aload_n 0, 1) := by decide +kernel
theorem dX11_count_17 : decode cX11_count 17 = .ok (.getfield 62, 3) := by decide +kernel
theorem dX11_count_20 : decode cX11_count 20 = .ok (.aload_n 0, 1) := by decide +kernel
theorem dX11_count_21 : decode cX11_count 21 = .ok (.getfield 86, 3) := by decide +kernel
theorem dX11_count_24 : decode cX11_count 24 = .ok (.iload 4, 2) := by decide +kernel
theorem dX11_count_26 : decode cX11_count 26 = .ok (.iload_n 3, 1) := by decide +kernel
theorem dX11_count_27 : decode cX11_count 27 = .ok (.invokestatic 171, 3) := by decide +kernel
theorem dX11_count_30 : decode cX11_count 30 = .ok (.iload 4, 2) := by decide +kernel
theorem dX11_count_32 : decode cX11_count 32 = .ok (.ifCond .ne 11, 3) := by decide +kernel
theorem dX11_count_35 : decode cX11_count 35 = .ok (.iload_n 3, 1) := by decide +kernel
theorem dX11_count_36 : decode cX11_count 36 = .ok (.ifCond .ne 7, 3) := by decide +kernel
theorem dX11_count_39 : decode cX11_count 39 = .ok (.lconst 1, 1) := by decide +kernel
theorem dX11_count_40 : decode cX11_count 40 = .ok (.goto 4, 3) := by decide +kernel
theorem dX11_count_43 : decode cX11_count 43 = .ok (.lconst 0, 1) := by decide +kernel
theorem dX11_count_44 : decode cX11_count 44 = .ok (.lastore, 1) := by decide +kernel
theorem dX11_count_45 : decode cX11_count 45 = .ok (.iinc 4 1, 3) := by decide +kernel
theorem dX11_count_48 : decode cX11_count 48 = .ok (.goto (-38), 3) := by decide +kernel
theorem dX11_count_51 : decode cX11_count 51 = .ok (.iinc 3 1, 3) := by decide +kernel
theorem dX11_count_54 : decode cX11_count 54 = .ok (.goto (-52), 3) := by decide +kernel
theorem dX11_count_57 : decode cX11_count 57 = .ok (.aload_n 0, 1) := by decide +kernel
theorem dX11_count_58 : decode cX11_count 58 = .ok (.getfield 86, 3) := by decide +kernel
theorem dX11_count_61 : decode cX11_count 61 = .ok (.iconst 1, 1) := by decide +kernel
theorem dX11_count_62 : decode cX11_count 62 = .ok (.isub, 1) := by decide +kernel
theorem dX11_count_63 : decode cX11_count 63 = .ok (.istore_n 3, 1) := by decide +kernel
theorem dX11_count_64 : decode cX11_count 64 = .ok (.iload_n 3, 1) := by decide +kernel
theorem dX11_count_65 : decode cX11_count 65 = .ok (.ifCond .lt 146, 3) := by decide +kernel
theorem dX11_count_68 : decode cX11_count 68 = .ok (.iconst 0, 1) := by decide +kernel
theorem dX11_count_69 : decode cX11_count 69 = .ok (.istore 4, 2) := by decide +kernel
theorem dX11_count_71 : decode cX11_count 71 = .ok (.iload 4, 2) := by decide +kernel
theorem dX11_count_73 : decode cX11_count 73 = .ok (.iload_n 2, 1) := by decide +kernel
theorem dX11_count_74 : decode cX11_count 74 = .ok (.if_icmp .gt 131, 3) := by decide +kernel
end
section
theorem dX11_count_77 : decode cX11_count 77 = .ok (.iconst 0, 1) := by decide +kernel
theorem dX11_count_78 : decode cX11_count 78 = .ok (.istore 5, 2) := by decide +kernel
theorem dX11_count_80 : decode cX11_count 80 = .ok (.iload 5, 2) := by decide +kernel
theorem dX11_count_82 : decode cX11_count 82 = .ok (.iload_n 1, 1) := by decide +kernel
theorem dX11_count_83 : decode cX11_count 83 = .ok (.if_icmp .gt 116, 3) := by decide +kernel
theorem dX11_count_86 : decode cX11_count 86 = .ok (.lconst 0, 1) := by decide +kernel
theorem dX11_count_87 : decode cX11_count 87 = .ok (.lstore 6, 2) := by decide +kernel
theorem dX11_count_89 : decode cX11_count 89 = .ok (.iconst 0, 1) := by decide +kernel
theorem dX11_count_90 : decode cX11_count 90 = .ok (.istore 8, 2) := by decide +kernel
theorem dX11_count_92 : decode cX11_count 92 = .ok (.iload 8, 2) := by decide +kernel
theorem dX11_count_94 : decode cX11_count 94 = .ok (.aload_n 0, 1) := by decide +kernel
theorem dX11_count_95 : decode cX11_count 95 = .ok (.getfield 15, 3) := by decide +kernel
theorem dX11_count_98 : decode cX11_count 98 = .ok (.iload_n 3, 1) := by decide +kernel
theorem dX11_count_99 : decode cX11_count 99 = .ok (.iaload, 1) := by decide +kernel
theorem dX11_count_100 : decode cX11_count 100 = .ok (.imul, 1) := by decide +kernel
theorem dX11_count_101 : decode cX11_count 101 = .ok (.iload 5, 2) := by decide +kernel
theorem dX11_count_103 : decode cX11_count 103 = .ok (.if_icmp .gt 75, 3) := by decide +kernel
theorem dX11_count_106 : decode cX11_count 106 = .ok (.iload 8, 2) := by decide +kernel
theorem dX11_count_108 : decode cX11_count 108 = .ok (.aload_n 0, 1) := by decide +kernel
theorem dX11_count_109 : decode cX11_count 109 = .ok (.getfield 19, 3) := by decide +kernel
theorem dX11_count_112 : decode cX11_count 112 = .ok (.iload_n 3, 1) := by decide +kernel
theorem dX11_count_113 : decode cX11_count 113 = .ok (.iaload, 1) := by decide +kernel
theorem dX11_count_114 : decode cX11_count 114 = .ok (.imul, 1) := by decide +kernel
theorem dX11_count_115 : decode cX11_count 115 = .ok (.iload 4, 2) := by decide +kernel
theorem dX11_count_117 : decode cX11_count 117 = .ok (.if_icmp .gt 61, 3) := by decide +kernel
theorem dX11_count_120 : decode cX11_count 120 = .ok (.lload 6, 2) := by decide +kernel
theorem dX11_count_122 : decode cX11_count 122 = .ok (.aload_n 0, 1) := by decide +kernel
theorem dX11_count_123 : decode cX11_count 123 = .ok (.getfield 25, 3) := by decide +kernel
theorem dX11_count_126 : decode cX11_count 126 = .ok (.iload_n 3, 1) := by decide +kernel
theorem dX11_count_127 : decode cX11_count 127 = .ok (.laload, 1) := by decide +kernel
theorem dX11_count_128 : decode cX11_count 128 = .ok (.iload 8, 2) := by decide +kernel
theorem dX11_count_130 : decode cX11_count 130 = .ok (.lshr, 1) := by decide +kernel
theorem dX11_count_131 : decode cX11_count 131 = .ok (.lconst 1, 1) := by decide +kernel
theorem dX11_count_132 : decode cX11_count 132 = .ok (.land, 1) := by decide +kernel
theorem dX11_count_133 : decode cX11_count 133 = .ok (.aload_n 0, 1) := by decide +kernel
theorem dX11_count_134 : decode cX11_count 134 = .ok (.getfield 62, 3) := by decide +kernel
theorem dX11_count_137 : decode cX11_count 137 = .ok (.iload_n 3, 1) := by decide +kernel
theorem dX11_count_138 : decode cX11_count 138 = .ok (.iconst 1, 1) := by decide +kernel
theorem dX11_count_139 : decode cX11_count 139 = .ok (.iadd, 1) := by decide +kernel
theorem dX11_count_140 : decode cX11_count 140 = .ok (.iload 5, 2) := by decide +kernel
theorem dX11_count_142 : decode cX11_count 142 = .ok (.iload 8, 2) := by decide +kernel
theorem dX11_count_144 : decode cX11_count 144 = .ok (.aload_n 0, 1) := by decide +kernel
theorem dX11_count_145 : decode cX11_count 145 = .ok (.getfield 15, 3) := by decide +kernel
theorem dX11_count_148 : decode cX11_count 148 = .ok (.iload_n 3, 1) := by decide +kernel
theorem dX11_count_149 : decode cX11_count 149 = .ok (.iaload, 1) := by decide +kernel
theorem dX11_count_150 : decode cX11_count 150 = .ok (.imul, 1) := by decide +kernel
theorem dX11_count_151 : decode cX11_count 151 = .ok (.isub, 1) := by decide +kernel
theorem dX11_count_152 : decode cX11_count 152 = .ok (.iload 4, 2) := by decide +kernel
theorem dX11_count_154 : decode cX11_count 154 = .ok (.iload 8, 2) := by decide +kernel
theorem dX11_count_156 : decode cX11_count 156 = .ok (.aload_n 0, 1) := by decide +kernel
theorem dX11_count_157 : decode cX11_count 157 = .ok (.getfield 19, 3) := by decide +kernel
theorem dX11_count_160 : decode cX11_count 160 = .ok (.iload_n 3, 1) := by decide +kernel
theorem dX11_count_161 : decode cX11_count 161 = .ok (.iaload, 1) := by decide +kernel
theorem dX11_count_162 : decode cX11_count 162 = .ok (.imul, 1) := by decide +kernel
theorem dX11_count_163 : decode cX11_count 163 = .ok (.isub, 1) := by decide +kernel
theorem dX11_count_164 : decode cX11_count 164 = .ok (.invokestatic 171, 3) := by decide +kernel
theorem dX11_count_167 : decode cX11_count 167 = .ok (.laload, 1) := by decide +kernel
theorem dX11_count_168 : decode cX11_count 168 = .ok (.lmul, 1) := by decide +kernel
theorem dX11_count_169 : decode cX11_count 169 = .ok (.ladd, 1) := by decide +kernel
theorem dX11_count_170 : decode cX11_count 170 = .ok (.lstore 6, 2) := by decide +kernel
theorem dX11_count_172 : decode cX11_count 172 = .ok (.iinc 8 1, 3) := by decide +kernel
theorem dX11_count_175 : decode cX11_count 175 = .ok (.goto (-83), 3) := by decide +kernel
theorem dX11_count_178 : decode cX11_count 178 = .ok (.aload_n 0, 1) := by decide +kernel
theorem dX11_count_179 : decode cX11_count 179 = .ok (.getfield 62, 3) := by decide +kernel
theorem dX11_count_182 : decode cX11_count 182 = .ok (.iload_n 3, 1) := by decide +kernel
theorem dX11_count_183 : decode cX11_count 183 = .ok (.iload 5, 2) := by decide +kernel
theorem dX11_count_185 : decode cX11_count 185 = .ok (.iload 4, 2) := by decide +kernel
theorem dX11_count_187 : decode cX11_count 187 = .ok (.invokestatic 171, 3) := by decide +kernel
theorem dX11_count_190 : decode cX11_count 190 = .ok (.lload 6, 2) := by decide +kernel
theorem dX11_count_192 : decode cX11_count 192 = .ok (.lastore, 1) := by decide +kernel
theorem dX11_count_193 : decode cX11_count 193 = .ok (.iinc 5 1, 3) := by decide +kernel
theorem dX11_count_196 : decode cX11_count 196 = .ok (.goto (-116), 3) := by decide +kernel
theorem dX11_count_199 : decode cX11_count 199 = .ok (.iinc 4 1, 3) := by decide +kernel
theorem dX11_count_202 : decode cX11_count 202 = .ok (.goto (-131), 3) := by decide +kernel
theorem dX11_count_205 : decode cX11_count 205 = .ok (.iinc 3 (-1), 3) := by decide +kernel
theorem dX11_count_208 : decode cX11_count 208 = .ok (.goto (-144), 3) := by decide +kernel
theorem dX11_count_211 : decode cX11_count 211 = .ok (.return_, 1) := by decide +kernel
theorem dX11_ways_0 : decode cX11_ways 0 = .ok (.iload_n 1, 1) := by decide +kernel
theorem dX11_ways_1 : decode cX11_ways 1 = .ok (.iload_n 2, 1) := by decide +kernel
theorem dX11_ways_2 : decode cX11_ways 2 = .ok (.bipush 60, 2) := by decide +kernel
theorem dX11_ways_4 : decode cX11_ways 4 = .ok (.invokestatic 175, 3) := by decide +kernel
theorem dX11_ways_7 : decode cX11_ways 7 = .ok (.ifCond .ne 7, 3) := by decide +kernel
theorem dX11_ways_10 : decode cX11_ways 10 = .ok (.ldc2_w 178, 3) := by decide +kernel
theorem dX11_ways_13 : decode cX11_ways 13 = .ok (.lreturn, 1) := by decide +kernel
theorem dX11_ways_14 : decode cX11_ways 14 = .ok (.aload_n 0, 1) := by decide +kernel
theorem dX11_ways_15 : decode cX11_ways 15 = .ok (.iload_n 1, 1) := by decide +kernel
theorem dX11_ways_16 : decode cX11_ways 16 = .ok (.iload_n 2, 1) := by decide +kernel
theorem dX11_ways_17 : decode cX11_ways 17 = .ok (.invokevirtual 180, 3) := by decide +kernel
theorem dX11_ways_20 : decode cX11_ways 20 = .ok (.aload_n 0, 1) := by decide +kernel
theorem dX11_ways_21 : decode cX11_ways 21 = .ok (.getfield 62, 3) := by decide +kernel
theorem dX11_ways_24 : decode cX11_ways 24 = .ok (.iconst 0, 1) := by decide +kernel
theorem dX11_ways_25 : decode cX11_ways 25 = .ok (.iload_n 1, 1) := by decide +kernel
theorem dX11_ways_26 : decode cX11_ways 26 = .ok (.iload_n 2, 1) := by decide +kernel
theorem dX11_ways_27 : decode cX11_ways 27 = .ok (.invokestatic 171, 3) := by decide +kernel
theorem dX11_ways_30 : decode cX11_ways 30 = .ok (.laload, 1) := by decide +kernel
theorem dX11_ways_31 : decode cX11_ways 31 = .ok (.lreturn, 1) := by decide +kernel
theorem dX11_addsPart_0 : decode cX11_addsPart 0 = .ok (.iload_n 2, 1) := by decide +kernel
theorem dX11_addsPart_1 : decode cX11_addsPart 1 = .ok (.istore_n 3, 1) := by decide +kernel
theorem dX11_addsPart_2 : decode cX11_addsPart 2 = .ok (.iload_n 3, 1) := by decide +kernel
theorem dX11_addsPart_3 : decode cX11_addsPart 3 = .ok (.aload_n 0, 1) := by decide +kernel
theorem dX11_addsPart_4 : decode cX11_addsPart 4 = .ok (.getfield 183, 3) := by decide +kernel
theorem dX11_addsPart_7 : decode cX11_addsPart 7 = .ok (.if_icmp .gt 60, 3) := by decide +kernel
theorem dX11_addsPart_10 : decode cX11_addsPart 10 = .ok (.iload_n 1, 1) := by decide +kernel
theorem dX11_addsPart_11 : decode cX11_addsPart 11 = .ok (.istore 4, 2) := by decide +kernel
theorem dX11_addsPart_13 : decode cX11_addsPart 13 = .ok (.iload 4, 2) := by decide +kernel
theorem dX11_addsPart_15 : decode cX11_addsPart 15 = .ok (.aload_n 0, 1) := by decide +kernel
theorem dX11_addsPart_16 : decode cX11_addsPart 16 = .ok (.getfield 186, 3) := by decide +kernel
theorem dX11_addsPart_19 : decode cX11_addsPart 19 = .ok (.if_icmp .gt 42, 3) := by decide +kernel
theorem dX11_addsPart_22 : decode cX11_addsPart 22 = .ok (.aload_n 0, 1) := by decide +kernel
theorem dX11_addsPart_23 : decode cX11_addsPart 23 = .ok (.getfield 65, 3) := by decide +kernel
theorem dX11_addsPart_26 : decode cX11_addsPart 26 = .ok (.sipush 150, 3) := by decide +kernel
theorem dX11_addsPart_29 : decode cX11_addsPart 29 = .ok (.iload_n 3, 1) := by decide +kernel
theorem dX11_addsPart_30 : decode cX11_addsPart 30 = .ok (.imul, 1) := by decide +kernel
theorem dX11_addsPart_31 : decode cX11_addsPart 31 = .ok (.iload 4, 2) := by decide +kernel
theorem dX11_addsPart_33 : decode cX11_addsPart 33 = .ok (.iadd, 1) := by decide +kernel
theorem dX11_addsPart_34 : decode cX11_addsPart 34 = .ok (.dup2, 1) := by decide +kernel
theorem dX11_addsPart_35 : decode cX11_addsPart 35 = .ok (.laload, 1) := by decide +kernel
theorem dX11_addsPart_36 : decode cX11_addsPart 36 = .ok (.aload_n 0, 1) := by decide +kernel
theorem dX11_addsPart_37 : decode cX11_addsPart 37 = .ok (.getfield 65, 3) := by decide +kernel
theorem dX11_addsPart_40 : decode cX11_addsPart 40 = .ok (.sipush 150, 3) := by decide +kernel
theorem dX11_addsPart_43 : decode cX11_addsPart 43 = .ok (.iload_n 3, 1) := by decide +kernel
theorem dX11_addsPart_44 : decode cX11_addsPart 44 = .ok (.iload_n 2, 1) := by decide +kernel
theorem dX11_addsPart_45 : decode cX11_addsPart 45 = .ok (.isub, 1) := by decide +kernel
theorem dX11_addsPart_46 : decode cX11_addsPart 46 = .ok (.imul, 1) := by decide +kernel
theorem dX11_addsPart_47 : decode cX11_addsPart 47 = .ok (.iload 4, 2) := by decide +kernel
theorem dX11_addsPart_49 : decode cX11_addsPart 49 = .ok (.iadd, 1) := by decide +kernel
theorem dX11_addsPart_50 : decode cX11_addsPart 50 = .ok (.iload_n 1, 1) := by decide +kernel
theorem dX11_addsPart_51 : decode cX11_addsPart 51 = .ok (.isub, 1) := by decide +kernel
theorem dX11_addsPart_52 : decode cX11_addsPart 52 = .ok (.laload, 1) := by decide +kernel
theorem dX11_addsPart_53 : decode cX11_addsPart 53 = .ok (.ladd, 1) := by decide +kernel
theorem dX11_addsPart_54 : decode cX11_addsPart 54 = .ok (.lastore, 1) := by decide +kernel
theorem dX11_addsPart_55 : decode cX11_addsPart 55 = .ok (.iinc 4 1, 3) := by decide +kernel
theorem dX11_addsPart_58 : decode cX11_addsPart 58 = .ok (.goto (-45), 3) := by decide +kernel
theorem dX11_addsPart_61 : decode cX11_addsPart 61 = .ok (.iinc 3 1, 3) := by decide +kernel
theorem dX11_addsPart_64 : decode cX11_addsPart 64 = .ok (.goto (-62), 3) := by decide +kernel
theorem dX11_addsPart_67 : decode cX11_addsPart 67 = .ok (.return_, 1) := by decide +kernel
theorem dX11_countFree_0 : decode cX11_countFree 0 = .ok (.aload_n 0, 1) := by decide +kernel
theorem dX11_countFree_1 : decode cX11_countFree 1 = .ok (.iload_n 1, 1) := by decide +kernel
theorem dX11_countFree_2 : decode cX11_countFree 2 = .ok (.putfield 186, 3) := by decide +kernel
theorem dX11_countFree_5 : decode cX11_countFree 5 = .ok (.aload_n 0, 1) := by decide +kernel
theorem dX11_countFree_6 : decode cX11_countFree 6 = .ok (.iload_n 2, 1) := by decide +kernel
theorem dX11_countFree_7 : decode cX11_countFree 7 = .ok (.putfield 183, 3) := by decide +kernel
theorem dX11_countFree_10 : decode cX11_countFree 10 = .ok (.iconst 0, 1) := by decide +kernel
theorem dX11_countFree_11 : decode cX11_countFree 11 = .ok (.istore_n 3, 1) := by decide +kernel
theorem dX11_countFree_12 : decode cX11_countFree 12 = .ok (.iload_n 3, 1) := by decide +kernel
theorem dX11_countFree_13 : decode cX11_countFree 13 = .ok (.iload_n 2, 1) := by decide +kernel
theorem dX11_countFree_14 : decode cX11_countFree 14 = .ok (.if_icmp .gt 49, 3) := by decide +kernel
theorem dX11_countFree_17 : decode cX11_countFree 17 = .ok (.iconst 0, 1) := by decide +kernel
theorem dX11_countFree_18 : decode cX11_countFree 18 = .ok (.istore 4, 2) := by decide +kernel
theorem dX11_countFree_20 : decode cX11_countFree 20 = .ok (.iload 4, 2) := by decide +kernel
theorem dX11_countFree_22 : decode cX11_countFree 22 = .ok (.iload_n 1, 1) := by decide +kernel
theorem dX11_countFree_23 : decode cX11_countFree 23 = .ok (.if_icmp .gt 34, 3) := by decide +kernel
theorem dX11_countFree_26 : decode cX11_countFree 26 = .ok (.aload_n 0, 1) := by decide +kernel
theorem dX11_countFree_27 : decode cX11_countFree 27 = .ok (.getfield 65, 3) := by decide +kernel
theorem dX11_countFree_30 : decode cX11_countFree 30 = .ok (.sipush 150, 3) := by decide +kernel
theorem dX11_countFree_33 : decode cX11_countFree 33 = .ok (.iload_n 3, 1) := by decide +kernel
theorem dX11_countFree_34 : decode cX11_countFree 34 = .ok (.imul, 1) := by decide +kernel
theorem dX11_countFree_35 : decode cX11_countFree 35 = .ok (.iload 4, 2) := by decide +kernel
theorem dX11_countFree_37 : decode cX11_countFree 37 = .ok (.iadd, 1) := by decide +kernel
theorem dX11_countFree_38 : decode cX11_countFree 38 = .ok (.iload 4, 2) := by decide +kernel
theorem dX11_countFree_40 : decode cX11_countFree 40 = .ok (.iload_n 3, 1) := by decide +kernel
theorem dX11_countFree_41 : decode cX11_countFree 41 = .ok (.iadd, 1) := by decide +kernel
theorem dX11_countFree_42 : decode cX11_countFree 42 = .ok (.ifCond .ne 7, 3) := by decide +kernel
theorem dX11_countFree_45 : decode cX11_countFree 45 = .ok (.lconst 1, 1) := by decide +kernel
theorem dX11_countFree_46 : decode cX11_countFree 46 = .ok (.goto 4, 3) := by decide +kernel
theorem dX11_countFree_49 : decode cX11_countFree 49 = .ok (.lconst 0, 1) := by decide +kernel
theorem dX11_countFree_50 : decode cX11_countFree 50 = .ok (.lastore, 1) := by decide +kernel
theorem dX11_countFree_51 : decode cX11_countFree 51 = .ok (.iinc 4 1, 3) := by decide +kernel
theorem dX11_countFree_54 : decode cX11_countFree 54 = .ok (.goto (-34), 3) := by decide +kernel
theorem dX11_countFree_57 : decode cX11_countFree 57 = .ok (.iinc 3 1, 3) := by decide +kernel
theorem dX11_countFree_60 : decode cX11_countFree 60 = .ok (.goto (-48), 3) := by decide +kernel
theorem dX11_countFree_63 : decode cX11_countFree 63 = .ok (.iconst 0, 1) := by decide +kernel
theorem dX11_countFree_64 : decode cX11_countFree 64 = .ok (.istore_n 3, 1) := by decide +kernel
theorem dX11_countFree_65 : decode cX11_countFree 65 = .ok (.iload_n 3, 1) := by decide +kernel
theorem dX11_countFree_66 : decode cX11_countFree 66 = .ok (.aload_n 0, 1) := by decide +kernel
theorem dX11_countFree_67 : decode cX11_countFree 67 = .ok (.getfield 86, 3) := by decide +kernel
theorem dX11_countFree_70 : decode cX11_countFree 70 = .ok (.if_icmp .ge 25, 3) := by decide +kernel
theorem dX11_countFree_73 : decode cX11_countFree 73 = .ok (.aload_n 0, 1) := by decide +kernel
theorem dX11_countFree_74 : decode cX11_countFree 74 = .ok (.aload_n 0, 1) := by decide +kernel
theorem dX11_countFree_75 : decode cX11_countFree 75 = .ok (.getfield 15, 3) := by decide +kernel
theorem dX11_countFree_78 : decode cX11_countFree 78 = .ok (.iload_n 3, 1) := by decide +kernel
theorem dX11_countFree_79 : decode cX11_countFree 79 = .ok (.iaload, 1) := by decide +kernel
theorem dX11_countFree_80 : decode cX11_countFree 80 = .ok (.aload_n 0, 1) := by decide +kernel
theorem dX11_countFree_81 : decode cX11_countFree 81 = .ok (.getfield 19, 3) := by decide +kernel
theorem dX11_countFree_84 : decode cX11_countFree 84 = .ok (.iload_n 3, 1) := by decide +kernel
theorem dX11_countFree_85 : decode cX11_countFree 85 = .ok (.iaload, 1) := by decide +kernel
theorem dX11_countFree_86 : decode cX11_countFree 86 = .ok (.invokevirtual 189, 3) := by decide +kernel
theorem dX11_countFree_89 : decode cX11_countFree 89 = .ok (.iinc 3 1, 3) := by decide +kernel
theorem dX11_countFree_92 : decode cX11_countFree 92 = .ok (.goto (-27), 3) := by decide +kernel
theorem dX11_countFree_95 : decode cX11_countFree 95 = .ok (.return_, 1) := by decide +kernel
theorem dX11_freeAt_0 : decode cX11_freeAt 0 = .ok (.iload_n 1, 1) := by decide +kernel
theorem dX11_freeAt_1 : decode cX11_freeAt 1 = .ok (.ifCond .lt 7, 3) := by decide +kernel
theorem dX11_freeAt_4 : decode cX11_freeAt 4 = .ok (.iload_n 2, 1) := by decide +kernel
theorem dX11_freeAt_5 : decode cX11_freeAt 5 = .ok (.ifCond .ge 7, 3) := by decide +kernel
theorem dX11_freeAt_8 : decode cX11_freeAt 8 = .ok (.lconst 0, 1) := by decide +kernel
theorem dX11_freeAt_9 : decode cX11_freeAt 9 = .ok (.goto 15, 3) := by decide +kernel
theorem dX11_freeAt_12 : decode cX11_freeAt 12 = .ok (.aload_n 0, 1) := by decide +kernel
theorem dX11_freeAt_13 : decode cX11_freeAt 13 = .ok (.getfield 65, 3) := by decide +kernel
theorem dX11_freeAt_16 : decode cX11_freeAt 16 = .ok (.sipush 150, 3) := by decide +kernel
theorem dX11_freeAt_19 : decode cX11_freeAt 19 = .ok (.iload_n 2, 1) := by decide +kernel
theorem dX11_freeAt_20 : decode cX11_freeAt 20 = .ok (.imul, 1) := by decide +kernel
theorem dX11_freeAt_21 : decode cX11_freeAt 21 = .ok (.iload_n 1, 1) := by decide +kernel
theorem dX11_freeAt_22 : decode cX11_freeAt 22 = .ok (.iadd, 1) := by decide +kernel
theorem dX11_freeAt_23 : decode cX11_freeAt 23 = .ok (.laload, 1) := by decide +kernel
theorem dX11_freeAt_24 : decode cX11_freeAt 24 = .ok (.lreturn, 1) := by decide +kernel
theorem dX11_free_0 : decode cX11_free 0 = .ok (.iload_n 1, 1) := by decide +kernel
theorem dX11_free_1 : decode cX11_free 1 = .ok (.iload_n 2, 1) := by decide +kernel
theorem dX11_free_2 : decode cX11_free 2 = .ok (.bipush 60, 2) := by decide +kernel
theorem dX11_free_4 : decode cX11_free 4 = .ok (.invokestatic 175, 3) := by decide +kernel
theorem dX11_free_7 : decode cX11_free 7 = .ok (.ifCond .ne 7, 3) := by decide +kernel
theorem dX11_free_10 : decode cX11_free 10 = .ok (.ldc2_w 178, 3) := by decide +kernel
theorem dX11_free_13 : decode cX11_free 13 = .ok (.lreturn, 1) := by decide +kernel
theorem dX11_free_14 : decode cX11_free 14 = .ok (.aload_n 0, 1) := by decide +kernel
theorem dX11_free_15 : decode cX11_free 15 = .ok (.iload_n 1, 1) := by decide +kernel
theorem dX11_free_16 : decode cX11_free 16 = .ok (.iload_n 2, 1) := by decide +kernel
theorem dX11_free_17 : decode cX11_free 17 = .ok (.invokevirtual 192, 3) := by decide +kernel
theorem dX11_free_20 : decode cX11_free 20 = .ok (.aload_n 0, 1) := by decide +kernel
theorem dX11_free_21 : decode cX11_free 21 = .ok (.iload_n 1, 1) := by decide +kernel
theorem dX11_free_22 : decode cX11_free 22 = .ok (.iload_n 2, 1) := by decide +kernel
theorem dX11_free_23 : decode cX11_free 23 = .ok (.invokevirtual 195, 3) := by decide +kernel
theorem dX11_free_26 : decode cX11_free 26 = .ok (.lreturn, 1) := by decide +kernel
theorem dX11_strict_0 : decode cX11_strict 0 = .ok (.iload_n 1, 1) := by decide +kernel
theorem dX11_strict_1 : decode cX11_strict 1 = .ok (.iload_n 2, 1) := by decide +kernel
theorem dX11_strict_2 : decode cX11_strict 2 = .ok (.bipush 60, 2) := by decide +kernel
theorem dX11_strict_4 : decode cX11_strict 4 = .ok (.invokestatic 175, 3) := by decide +kernel
theorem dX11_strict_7 : decode cX11_strict 7 = .ok (.ifCond .ne 7, 3) := by decide +kernel
theorem dX11_strict_10 : decode cX11_strict 10 = .ok (.ldc2_w 178, 3) := by decide +kernel
theorem dX11_strict_13 : decode cX11_strict 13 = .ok (.lreturn, 1) := by decide +kernel
theorem dX11_strict_14 : decode cX11_strict 14 = .ok (.aload_n 0, 1) := by decide +kernel
theorem dX11_strict_15 : decode cX11_strict 15 = .ok (.iload_n 1, 1) := by decide +kernel
theorem dX11_strict_16 : decode cX11_strict 16 = .ok (.iload_n 2, 1) := by decide +kernel
theorem dX11_strict_17 : decode cX11_strict 17 = .ok (.invokevirtual 192, 3) := by decide +kernel
theorem dX11_strict_20 : decode cX11_strict 20 = .ok (.iconst 0, 1) := by decide +kernel
theorem dX11_strict_21 : decode cX11_strict 21 = .ok (.istore_n 3, 1) := by decide +kernel
theorem dX11_strict_22 : decode cX11_strict 22 = .ok (.iconst 0, 1) := by decide +kernel
theorem dX11_strict_23 : decode cX11_strict 23 = .ok (.istore 4, 2) := by decide +kernel
theorem dX11_strict_25 : decode cX11_strict 25 = .ok (.iconst 0, 1) := by decide +kernel
theorem dX11_strict_26 : decode cX11_strict 26 = .ok (.istore 5, 2) := by decide +kernel
theorem dX11_strict_28 : decode cX11_strict 28 = .ok (.iload 5, 2) := by decide +kernel
theorem dX11_strict_30 : decode cX11_strict 30 = .ok (.aload_n 0, 1) := by decide +kernel
theorem dX11_strict_31 : decode cX11_strict 31 = .ok (.getfield 86, 3) := by decide +kernel
theorem dX11_strict_34 : decode cX11_strict 34 = .ok (.if_icmp .ge 31, 3) := by decide +kernel
theorem dX11_strict_37 : decode cX11_strict 37 = .ok (.iload_n 3, 1) := by decide +kernel
theorem dX11_strict_38 : decode cX11_strict 38 = .ok (.aload_n 0, 1) := by decide +kernel
theorem dX11_strict_39 : decode cX11_strict 39 = .ok (.getfield 15, 3) := by decide +kernel
theorem dX11_strict_42 : decode cX11_strict 42 = .ok (.iload 5, 2) := by decide +kernel
theorem dX11_strict_44 : decode cX11_strict 44 = .ok (.iaload, 1) := by decide +kernel
theorem dX11_strict_45 : decode cX11_strict 45 = .ok (.iadd, 1) := by decide +kernel
theorem dX11_strict_46 : decode cX11_strict 46 = .ok (.istore_n 3, 1) := by decide +kernel
theorem dX11_strict_47 : decode cX11_strict 47 = .ok (.iload 4, 2) := by decide +kernel
theorem dX11_strict_49 : decode cX11_strict 49 = .ok (.aload_n 0, 1) := by decide +kernel
theorem dX11_strict_50 : decode cX11_strict 50 = .ok (.getfield 19, 3) := by decide +kernel
theorem dX11_strict_53 : decode cX11_strict 53 = .ok (.iload 5, 2) := by decide +kernel
theorem dX11_strict_55 : decode cX11_strict 55 = .ok (.iaload, 1) := by decide +kernel
theorem dX11_strict_56 : decode cX11_strict 56 = .ok (.iadd, 1) := by decide +kernel
theorem dX11_strict_57 : decode cX11_strict 57 = .ok (.istore 4, 2) := by decide +kernel
theorem dX11_strict_59 : decode cX11_strict 59 = .ok (.iinc 5 1, 3) := by decide +kernel
theorem dX11_strict_62 : decode cX11_strict 62 = .ok (.goto (-34), 3) := by decide +kernel
theorem dX11_strict_65 : decode cX11_strict 65 = .ok (.aload_n 0, 1) := by decide +kernel
theorem dX11_strict_66 : decode cX11_strict 66 = .ok (.iload_n 1, 1) := by decide +kernel
theorem dX11_strict_67 : decode cX11_strict 67 = .ok (.iload_n 3, 1) := by decide +kernel
theorem dX11_strict_68 : decode cX11_strict 68 = .ok (.isub, 1) := by decide +kernel
theorem dX11_strict_69 : decode cX11_strict 69 = .ok (.iload_n 2, 1) := by decide +kernel
theorem dX11_strict_70 : decode cX11_strict 70 = .ok (.iload 4, 2) := by decide +kernel
theorem dX11_strict_72 : decode cX11_strict 72 = .ok (.isub, 1) := by decide +kernel
theorem dX11_strict_73 : decode cX11_strict 73 = .ok (.invokevirtual 195, 3) := by decide +kernel
theorem dX11_strict_76 : decode cX11_strict 76 = .ok (.lreturn, 1) := by decide +kernel
theorem dX11_way_0 : decode cX11_way 0 = .ok (.iload_n 1, 1) := by decide +kernel
theorem dX11_way_1 : decode cX11_way 1 = .ok (.iload_n 2, 1) := by decide +kernel
theorem dX11_way_2 : decode cX11_way 2 = .ok (.bipush 60, 2) := by decide +kernel
theorem dX11_way_4 : decode cX11_way 4 = .ok (.invokestatic 175, 3) := by decide +kernel
theorem dX11_way_7 : decode cX11_way 7 = .ok (.ifCond .eq 16, 3) := by decide +kernel
theorem dX11_way_10 : decode cX11_way 10 = .ok (.iload_n 3, 1) := by decide +kernel
theorem dX11_way_11 : decode cX11_way 11 = .ok (.ifCond .lt 12, 3) := by decide +kernel
theorem dX11_way_14 : decode cX11_way 14 = .ok (.aload_n 0, 1) := by decide +kernel
theorem dX11_way_15 : decode cX11_way 15 = .ok (.iload 4, 2) := by decide +kernel
theorem dX11_way_17 : decode cX11_way 17 = .ok (.invokevirtual 105, 3) := by decide +kernel
theorem dX11_way_20 : decode cX11_way 20 = .ok (.ifCond .ne 5, 3) := by decide +kernel
theorem dX11_way_23 : decode cX11_way 23 = .ok (.iconst (-1), 1) := by decide +kernel
theorem dX11_way_24 : decode cX11_way 24 = .ok (.ireturn, 1) := by decide +kernel
theorem dX11_way_25 : decode cX11_way 25 = .ok (.aload_n 0, 1) := by decide +kernel
theorem dX11_way_26 : decode cX11_way 26 = .ok (.iload_n 1, 1) := by decide +kernel
theorem dX11_way_27 : decode cX11_way 27 = .ok (.iload_n 2, 1) := by decide +kernel
theorem dX11_way_28 : decode cX11_way 28 = .ok (.invokevirtual 180, 3) := by decide +kernel
theorem dX11_way_31 : decode cX11_way 31 = .ok (.aload_n 0, 1) := by decide +kernel
theorem dX11_way_32 : decode cX11_way 32 = .ok (.getfield 62, 3) := by decide +kernel
theorem dX11_way_35 : decode cX11_way 35 = .ok (.iconst 0, 1) := by decide +kernel
theorem dX11_way_36 : decode cX11_way 36 = .ok (.iload_n 1, 1) := by decide +kernel
theorem dX11_way_37 : decode cX11_way 37 = .ok (.iload_n 2, 1) := by decide +kernel
theorem dX11_way_38 : decode cX11_way 38 = .ok (.invokestatic 171, 3) := by decide +kernel
theorem dX11_way_41 : decode cX11_way 41 = .ok (.laload, 1) := by decide +kernel
theorem dX11_way_42 : decode cX11_way 42 = .ok (.iload_n 3, 1) := by decide +kernel
theorem dX11_way_43 : decode cX11_way 43 = .ok (.i2l, 1) := by decide +kernel
theorem dX11_way_44 : decode cX11_way 44 = .ok (.lcmp, 1) := by decide +kernel
theorem dX11_way_45 : decode cX11_way 45 = .ok (.ifCond .gt 6, 3) := by decide +kernel
theorem dX11_way_48 : decode cX11_way 48 = .ok (.bipush (-3), 2) := by decide +kernel
theorem dX11_way_50 : decode cX11_way 50 = .ok (.ireturn, 1) := by decide +kernel
theorem dX11_way_51 : decode cX11_way 51 = .ok (.iload_n 3, 1) := by decide +kernel
theorem dX11_way_52 : decode cX11_way 52 = .ok (.i2l, 1) := by decide +kernel
theorem dX11_way_53 : decode cX11_way 53 = .ok (.lstore 5, 2) := by decide +kernel
theorem dX11_way_55 : decode cX11_way 55 = .ok (.iload_n 1, 1) := by decide +kernel
theorem dX11_way_56 : decode cX11_way 56 = .ok (.istore 7, 2) := by decide +kernel
theorem dX11_way_58 : decode cX11_way 58 = .ok (.iload_n 2, 1) := by decide +kernel
theorem dX11_way_59 : decode cX11_way 59 = .ok (.istore 8, 2) := by decide +kernel
theorem dX11_way_61 : decode cX11_way 61 = .ok (.iconst 0, 1) := by decide +kernel
theorem dX11_way_62 : decode cX11_way 62 = .ok (.istore 9, 2) := by decide +kernel
theorem dX11_way_64 : decode cX11_way 64 = .ok (.iconst 0, 1) := by decide +kernel
theorem dX11_way_65 : decode cX11_way 65 = .ok (.istore 10, 2) := by decide +kernel
theorem dX11_way_67 : decode cX11_way 67 = .ok (.iload 10, 2) := by decide +kernel
theorem dX11_way_69 : decode cX11_way 69 = .ok (.iload 4, 2) := by decide +kernel
theorem dX11_way_71 : decode cX11_way 71 = .ok (.if_icmp .gt 144, 3) := by decide +kernel
theorem dX11_way_74 : decode cX11_way 74 = .ok (.iconst 0, 1) := by decide +kernel
theorem dX11_way_75 : decode cX11_way 75 = .ok (.istore 9, 2) := by decide +kernel
theorem dX11_way_77 : decode cX11_way 77 = .ok (.aload_n 0, 1) := by decide +kernel
theorem dX11_way_78 : decode cX11_way 78 = .ok (.getfield 25, 3) := by decide +kernel
theorem dX11_way_81 : decode cX11_way 81 = .ok (.iload 10, 2) := by decide +kernel
theorem dX11_way_83 : decode cX11_way 83 = .ok (.laload, 1) := by decide +kernel
theorem dX11_way_84 : decode cX11_way 84 = .ok (.lconst 1, 1) := by decide +kernel
theorem dX11_way_85 : decode cX11_way 85 = .ok (.land, 1) := by decide +kernel
theorem dX11_way_86 : decode cX11_way 86 = .ok (.aload_n 0, 1) := by decide +kernel
theorem dX11_way_87 : decode cX11_way 87 = .ok (.getfield 62, 3) := by decide +kernel
theorem dX11_way_90 : decode cX11_way 90 = .ok (.iload 10, 2) := by decide +kernel
theorem dX11_way_92 : decode cX11_way 92 = .ok (.iconst 1, 1) := by decide +kernel
theorem dX11_way_93 : decode cX11_way 93 = .ok (.iadd, 1) := by decide +kernel
theorem dX11_way_94 : decode cX11_way 94 = .ok (.iload 7, 2) := by decide +kernel
theorem dX11_way_96 : decode cX11_way 96 = .ok (.iload 8, 2) := by decide +kernel
theorem dX11_way_98 : decode cX11_way 98 = .ok (.invokestatic 171, 3) := by decide +kernel
theorem dX11_way_101 : decode cX11_way 101 = .ok (.laload, 1) := by decide +kernel
theorem dX11_way_102 : decode cX11_way 102 = .ok (.lmul, 1) := by decide +kernel
theorem dX11_way_103 : decode cX11_way 103 = .ok (.lstore 11, 2) := by decide +kernel
theorem dX11_way_105 : decode cX11_way 105 = .ok (.lload 11, 2) := by decide +kernel
theorem dX11_way_107 : decode cX11_way 107 = .ok (.lload 5, 2) := by decide +kernel
theorem dX11_way_109 : decode cX11_way 109 = .ok (.lcmp, 1) := by decide +kernel
theorem dX11_way_110 : decode cX11_way 110 = .ok (.ifCond .gt 69, 3) := by decide +kernel
theorem dX11_way_113 : decode cX11_way 113 = .ok (.lload 5, 2) := by decide +kernel
theorem dX11_way_115 : decode cX11_way 115 = .ok (.lload 11, 2) := by decide +kernel
theorem dX11_way_117 : decode cX11_way 117 = .ok (.lsub, 1) := by decide +kernel
theorem dX11_way_118 : decode cX11_way 118 = .ok (.lstore 5, 2) := by decide +kernel
theorem dX11_way_120 : decode cX11_way 120 = .ok (.iinc 9 1, 3) := by decide +kernel
theorem dX11_way_123 : decode cX11_way 123 = .ok (.aload_n 0, 1) := by decide +kernel
theorem dX11_way_124 : decode cX11_way 124 = .ok (.getfield 25, 3) := by decide +kernel
theorem dX11_way_127 : decode cX11_way 127 = .ok (.iload 10, 2) := by decide +kernel
theorem dX11_way_129 : decode cX11_way 129 = .ok (.laload, 1) := by decide +kernel
theorem dX11_way_130 : decode cX11_way 130 = .ok (.iload 9, 2) := by decide +kernel
theorem dX11_way_132 : decode cX11_way 132 = .ok (.lshr, 1) := by decide +kernel
theorem dX11_way_133 : decode cX11_way 133 = .ok (.lconst 1, 1) := by decide +kernel
theorem dX11_way_134 : decode cX11_way 134 = .ok (.land, 1) := by decide +kernel
theorem dX11_way_135 : decode cX11_way 135 = .ok (.aload_n 0, 1) := by decide +kernel
theorem dX11_way_136 : decode cX11_way 136 = .ok (.getfield 62, 3) := by decide +kernel
theorem dX11_way_139 : decode cX11_way 139 = .ok (.iload 10, 2) := by decide +kernel
theorem dX11_way_141 : decode cX11_way 141 = .ok (.iconst 1, 1) := by decide +kernel
theorem dX11_way_142 : decode cX11_way 142 = .ok (.iadd, 1) := by decide +kernel
theorem dX11_way_143 : decode cX11_way 143 = .ok (.iload 7, 2) := by decide +kernel
theorem dX11_way_145 : decode cX11_way 145 = .ok (.iload 9, 2) := by decide +kernel
theorem dX11_way_147 : decode cX11_way 147 = .ok (.aload_n 0, 1) := by decide +kernel
theorem dX11_way_148 : decode cX11_way 148 = .ok (.getfield 15, 3) := by decide +kernel
theorem dX11_way_151 : decode cX11_way 151 = .ok (.iload 10, 2) := by decide +kernel
theorem dX11_way_153 : decode cX11_way 153 = .ok (.iaload, 1) := by decide +kernel
theorem dX11_way_154 : decode cX11_way 154 = .ok (.imul, 1) := by decide +kernel
theorem dX11_way_155 : decode cX11_way 155 = .ok (.isub, 1) := by decide +kernel
theorem dX11_way_156 : decode cX11_way 156 = .ok (.iload 8, 2) := by decide +kernel
theorem dX11_way_158 : decode cX11_way 158 = .ok (.iload 9, 2) := by decide +kernel
theorem dX11_way_160 : decode cX11_way 160 = .ok (.aload_n 0, 1) := by decide +kernel
theorem dX11_way_161 : decode cX11_way 161 = .ok (.getfield 19, 3) := by decide +kernel
theorem dX11_way_164 : decode cX11_way 164 = .ok (.iload 10, 2) := by decide +kernel
theorem dX11_way_166 : decode cX11_way 166 = .ok (.iaload, 1) := by decide +kernel
theorem dX11_way_167 : decode cX11_way 167 = .ok (.imul, 1) := by decide +kernel
theorem dX11_way_168 : decode cX11_way 168 = .ok (.isub, 1) := by decide +kernel
theorem dX11_way_169 : decode cX11_way 169 = .ok (.invokestatic 171, 3) := by decide +kernel
theorem dX11_way_172 : decode cX11_way 172 = .ok (.laload, 1) := by decide +kernel
theorem dX11_way_173 : decode cX11_way 173 = .ok (.lmul, 1) := by decide +kernel
theorem dX11_way_174 : decode cX11_way 174 = .ok (.lstore 11, 2) := by decide +kernel
theorem dX11_way_176 : decode cX11_way 176 = .ok (.goto (-71), 3) := by decide +kernel
theorem dX11_way_179 : decode cX11_way 179 = .ok (.iload 7, 2) := by decide +kernel
theorem dX11_way_181 : decode cX11_way 181 = .ok (.iload 9, 2) := by decide +kernel
theorem dX11_way_183 : decode cX11_way 183 = .ok (.aload_n 0, 1) := by decide +kernel
theorem dX11_way_184 : decode cX11_way 184 = .ok (.getfield 15, 3) := by decide +kernel
theorem dX11_way_187 : decode cX11_way 187 = .ok (.iload 10, 2) := by decide +kernel
theorem dX11_way_189 : decode cX11_way 189 = .ok (.iaload, 1) := by decide +kernel
theorem dX11_way_190 : decode cX11_way 190 = .ok (.imul, 1) := by decide +kernel
theorem dX11_way_191 : decode cX11_way 191 = .ok (.isub, 1) := by decide +kernel
theorem dX11_way_192 : decode cX11_way 192 = .ok (.istore 7, 2) := by decide +kernel
theorem dX11_way_194 : decode cX11_way 194 = .ok (.iload 8, 2) := by decide +kernel
theorem dX11_way_196 : decode cX11_way 196 = .ok (.iload 9, 2) := by decide +kernel
theorem dX11_way_198 : decode cX11_way 198 = .ok (.aload_n 0, 1) := by decide +kernel
theorem dX11_way_199 : decode cX11_way 199 = .ok (.getfield 19, 3) := by decide +kernel
theorem dX11_way_202 : decode cX11_way 202 = .ok (.iload 10, 2) := by decide +kernel
theorem dX11_way_204 : decode cX11_way 204 = .ok (.iaload, 1) := by decide +kernel
theorem dX11_way_205 : decode cX11_way 205 = .ok (.imul, 1) := by decide +kernel
theorem dX11_way_206 : decode cX11_way 206 = .ok (.isub, 1) := by decide +kernel
theorem dX11_way_207 : decode cX11_way 207 = .ok (.istore 8, 2) := by decide +kernel
theorem dX11_way_209 : decode cX11_way 209 = .ok (.iinc 10 1, 3) := by decide +kernel
theorem dX11_way_212 : decode cX11_way 212 = .ok (.goto (-145), 3) := by decide +kernel
theorem dX11_way_215 : decode cX11_way 215 = .ok (.iload 9, 2) := by decide +kernel
theorem dX11_way_217 : decode cX11_way 217 = .ok (.ireturn, 1) := by decide +kernel
theorem dX11_times_0 : decode cX11_times 0 = .ok (.lload_n 0, 1) := by decide +kernel
theorem dX11_times_1 : decode cX11_times 1 = .ok (.ldc2_w 199, 3) := by decide +kernel
theorem dX11_times_4 : decode cX11_times 4 = .ok (.lcmp, 1) := by decide +kernel
theorem dX11_times_5 : decode cX11_times 5 = .ok (.ifCond .eq 21, 3) := by decide +kernel
theorem dX11_times_8 : decode cX11_times 8 = .ok (.lload_n 2, 1) := by decide +kernel
theorem dX11_times_9 : decode cX11_times 9 = .ok (.ldc2_w 199, 3) := by decide +kernel
theorem dX11_times_12 : decode cX11_times 12 = .ok (.lcmp, 1) := by decide +kernel
theorem dX11_times_13 : decode cX11_times 13 = .ok (.ifCond .eq 13, 3) := by decide +kernel
theorem dX11_times_16 : decode cX11_times 16 = .ok (.lload_n 0, 1) := by decide +kernel
theorem dX11_times_17 : decode cX11_times 17 = .ok (.ldc2_w 201, 3) := by decide +kernel
theorem dX11_times_20 : decode cX11_times 20 = .ok (.lload_n 2, 1) := by decide +kernel
theorem dX11_times_21 : decode cX11_times 21 = .ok (.ldiv, 1) := by decide +kernel
theorem dX11_times_22 : decode cX11_times 22 = .ok (.lcmp, 1) := by decide +kernel
theorem dX11_times_23 : decode cX11_times 23 = .ok (.ifCond .le 9, 3) := by decide +kernel
theorem dX11_times_26 : decode cX11_times 26 = .ok (.ldc2_w 199, 3) := by decide +kernel
theorem dX11_times_29 : decode cX11_times 29 = .ok (.goto 6, 3) := by decide +kernel
theorem dX11_times_32 : decode cX11_times 32 = .ok (.lload_n 0, 1) := by decide +kernel
theorem dX11_times_33 : decode cX11_times 33 = .ok (.lload_n 2, 1) := by decide +kernel
theorem dX11_times_34 : decode cX11_times 34 = .ok (.lmul, 1) := by decide +kernel
theorem dX11_times_35 : decode cX11_times 35 = .ok (.lreturn, 1) := by decide +kernel
theorem dX11_both_0 : decode cX11_both 0 = .ok (.lload_n 1, 1) := by decide +kernel
theorem dX11_both_1 : decode cX11_both 1 = .ok (.ldc2_w 149, 3) := by decide +kernel
theorem dX11_both_4 : decode cX11_both 4 = .ok (.lcmp, 1) := by decide +kernel
theorem dX11_both_5 : decode cX11_both 5 = .ok (.ifCond .eq 11, 3) := by decide +kernel
theorem dX11_both_8 : decode cX11_both 8 = .ok (.lload_n 3, 1) := by decide +kernel
theorem dX11_both_9 : decode cX11_both 9 = .ok (.ldc2_w 149, 3) := by decide +kernel
theorem dX11_both_12 : decode cX11_both 12 = .ok (.lcmp, 1) := by decide +kernel
theorem dX11_both_13 : decode cX11_both 13 = .ok (.ifCond .ne 17, 3) := by decide +kernel
theorem dX11_both_16 : decode cX11_both 16 = .ok (.lload_n 1, 1) := by decide +kernel
theorem dX11_both_17 : decode cX11_both 17 = .ok (.ldc2_w 149, 3) := by decide +kernel
theorem dX11_both_20 : decode cX11_both 20 = .ok (.lcmp, 1) := by decide +kernel
theorem dX11_both_21 : decode cX11_both 21 = .ok (.ifCond .ne 7, 3) := by decide +kernel
theorem dX11_both_24 : decode cX11_both 24 = .ok (.lload_n 3, 1) := by decide +kernel
theorem dX11_both_25 : decode cX11_both 25 = .ok (.goto 4, 3) := by decide +kernel
theorem dX11_both_28 : decode cX11_both 28 = .ok (.lload_n 1, 1) := by decide +kernel
theorem dX11_both_29 : decode cX11_both 29 = .ok (.lreturn, 1) := by decide +kernel
theorem dX11_both_30 : decode cX11_both 30 = .ok (.lload_n 1, 1) := by decide +kernel
theorem dX11_both_31 : decode cX11_both 31 = .ok (.ldc2_w 199, 3) := by decide +kernel
theorem dX11_both_34 : decode cX11_both 34 = .ok (.lcmp, 1) := by decide +kernel
theorem dX11_both_35 : decode cX11_both 35 = .ok (.ifCond .eq 11, 3) := by decide +kernel
theorem dX11_both_38 : decode cX11_both 38 = .ok (.lload_n 3, 1) := by decide +kernel
theorem dX11_both_39 : decode cX11_both 39 = .ok (.ldc2_w 199, 3) := by decide +kernel
theorem dX11_both_42 : decode cX11_both 42 = .ok (.lcmp, 1) := by decide +kernel
theorem dX11_both_43 : decode cX11_both 43 = .ok (.ifCond .ne 7, 3) := by decide +kernel
theorem dX11_both_46 : decode cX11_both 46 = .ok (.ldc2_w 199, 3) := by decide +kernel
theorem dX11_both_49 : decode cX11_both 49 = .ok (.lreturn, 1) := by decide +kernel
theorem dX11_both_50 : decode cX11_both 50 = .ok (.iload_n 0, 1) := by decide +kernel
theorem dX11_both_51 : decode cX11_both 51 = .ok (.lookupswitch 57 #[(0, 25), (2, 45)], 25) := by decide +kernel
theorem dX11_both_76 : decode cX11_both 76 = .ok (.lload_n 1, 1) := by decide +kernel
theorem dX11_both_77 : decode cX11_both 77 = .ok (.ldc2_w 201, 3) := by decide +kernel
theorem dX11_both_80 : decode cX11_both 80 = .ok (.lload_n 3, 1) := by decide +kernel
theorem dX11_both_81 : decode cX11_both 81 = .ok (.lsub, 1) := by decide +kernel
theorem dX11_both_82 : decode cX11_both 82 = .ok (.lcmp, 1) := by decide +kernel
theorem dX11_both_83 : decode cX11_both 83 = .ok (.ifCond .le 9, 3) := by decide +kernel
theorem dX11_both_86 : decode cX11_both 86 = .ok (.ldc2_w 199, 3) := by decide +kernel
theorem dX11_both_89 : decode cX11_both 89 = .ok (.goto 6, 3) := by decide +kernel
theorem dX11_both_92 : decode cX11_both 92 = .ok (.lload_n 1, 1) := by decide +kernel
theorem dX11_both_93 : decode cX11_both 93 = .ok (.lload_n 3, 1) := by decide +kernel
theorem dX11_both_94 : decode cX11_both 94 = .ok (.ladd, 1) := by decide +kernel
theorem dX11_both_95 : decode cX11_both 95 = .ok (.lreturn, 1) := by decide +kernel
theorem dX11_both_96 : decode cX11_both 96 = .ok (.lload_n 1, 1) := by decide +kernel
theorem dX11_both_97 : decode cX11_both 97 = .ok (.lload_n 3, 1) := by decide +kernel
theorem dX11_both_98 : decode cX11_both 98 = .ok (.lcmp, 1) := by decide +kernel
theorem dX11_both_99 : decode cX11_both 99 = .ok (.ifCond .ge 7, 3) := by decide +kernel
theorem dX11_both_102 : decode cX11_both 102 = .ok (.lload_n 1, 1) := by decide +kernel
theorem dX11_both_103 : decode cX11_both 103 = .ok (.goto 4, 3) := by decide +kernel
theorem dX11_both_106 : decode cX11_both 106 = .ok (.lload_n 3, 1) := by decide +kernel
theorem dX11_both_107 : decode cX11_both 107 = .ok (.lreturn, 1) := by decide +kernel
theorem dX11_both_108 : decode cX11_both 108 = .ok (.lload_n 1, 1) := by decide +kernel
theorem dX11_both_109 : decode cX11_both 109 = .ok (.lload_n 3, 1) := by decide +kernel
theorem dX11_both_110 : decode cX11_both 110 = .ok (.lcmp, 1) := by decide +kernel
theorem dX11_both_111 : decode cX11_both 111 = .ok (.ifCond .le 7, 3) := by decide +kernel
theorem dX11_both_114 : decode cX11_both 114 = .ok (.lload_n 1, 1) := by decide +kernel
theorem dX11_both_115 : decode cX11_both 115 = .ok (.goto 4, 3) := by decide +kernel
theorem dX11_both_118 : decode cX11_both 118 = .ok (.lload_n 3, 1) := by decide +kernel
theorem dX11_both_119 : decode cX11_both 119 = .ok (.lreturn, 1) := by decide +kernel
theorem dX11_foldAt_0 : decode cX11_foldAt 0 = .ok (.ldc2_w 149, 3) := by decide +kernel
theorem dX11_foldAt_3 : decode cX11_foldAt 3 = .ok (.lstore 5, 2) := by decide +kernel
theorem dX11_foldAt_5 : decode cX11_foldAt 5 = .ok (.lconst 1, 1) := by decide +kernel
theorem dX11_foldAt_6 : decode cX11_foldAt 6 = .ok (.lstore 7, 2) := by decide +kernel
theorem dX11_foldAt_8 : decode cX11_foldAt 8 = .ok (.iconst 0, 1) := by decide +kernel
theorem dX11_foldAt_9 : decode cX11_foldAt 9 = .ok (.istore 9, 2) := by decide +kernel
theorem dX11_foldAt_11 : decode cX11_foldAt 11 = .ok (.iload 9, 2) := by decide +kernel
theorem dX11_foldAt_13 : decode cX11_foldAt 13 = .ok (.aload_n 0, 1) := by decide +kernel
theorem dX11_foldAt_14 : decode cX11_foldAt 14 = .ok (.getfield 15, 3) := by decide +kernel
theorem dX11_foldAt_17 : decode cX11_foldAt 17 = .ok (.iload_n 2, 1) := by decide +kernel
theorem dX11_foldAt_18 : decode cX11_foldAt 18 = .ok (.iaload, 1) := by decide +kernel
theorem dX11_foldAt_19 : decode cX11_foldAt 19 = .ok (.imul, 1) := by decide +kernel
theorem dX11_foldAt_20 : decode cX11_foldAt 20 = .ok (.iload_n 3, 1) := by decide +kernel
theorem dX11_foldAt_21 : decode cX11_foldAt 21 = .ok (.if_icmp .gt 132, 3) := by decide +kernel
theorem dX11_foldAt_24 : decode cX11_foldAt 24 = .ok (.iload 9, 2) := by decide +kernel
theorem dX11_foldAt_26 : decode cX11_foldAt 26 = .ok (.aload_n 0, 1) := by decide +kernel
theorem dX11_foldAt_27 : decode cX11_foldAt 27 = .ok (.getfield 19, 3) := by decide +kernel
theorem dX11_foldAt_30 : decode cX11_foldAt 30 = .ok (.iload_n 2, 1) := by decide +kernel
theorem dX11_foldAt_31 : decode cX11_foldAt 31 = .ok (.iaload, 1) := by decide +kernel
theorem dX11_foldAt_32 : decode cX11_foldAt 32 = .ok (.imul, 1) := by decide +kernel
theorem dX11_foldAt_33 : decode cX11_foldAt 33 = .ok (.iload 4, 2) := by decide +kernel
theorem dX11_foldAt_35 : decode cX11_foldAt 35 = .ok (.if_icmp .gt 118, 3) := by decide +kernel
theorem dX11_foldAt_38 : decode cX11_foldAt 38 = .ok (.aload_n 0, 1) := by decide +kernel
theorem dX11_foldAt_39 : decode cX11_foldAt 39 = .ok (.getfield 62, 3) := by decide +kernel
theorem dX11_foldAt_42 : decode cX11_foldAt 42 = .ok (.iload_n 2, 1) := by decide +kernel
theorem dX11_foldAt_43 : decode cX11_foldAt 43 = .ok (.iconst 1, 1) := by decide +kernel
theorem dX11_foldAt_44 : decode cX11_foldAt 44 = .ok (.iadd, 1) := by decide +kernel
theorem dX11_foldAt_45 : decode cX11_foldAt 45 = .ok (.iload_n 3, 1) := by decide +kernel
theorem dX11_foldAt_46 : decode cX11_foldAt 46 = .ok (.iload 9, 2) := by decide +kernel
theorem dX11_foldAt_48 : decode cX11_foldAt 48 = .ok (.aload_n 0, 1) := by decide +kernel
theorem dX11_foldAt_49 : decode cX11_foldAt 49 = .ok (.getfield 15, 3) := by decide +kernel
theorem dX11_foldAt_52 : decode cX11_foldAt 52 = .ok (.iload_n 2, 1) := by decide +kernel
theorem dX11_foldAt_53 : decode cX11_foldAt 53 = .ok (.iaload, 1) := by decide +kernel
theorem dX11_foldAt_54 : decode cX11_foldAt 54 = .ok (.imul, 1) := by decide +kernel
theorem dX11_foldAt_55 : decode cX11_foldAt 55 = .ok (.isub, 1) := by decide +kernel
theorem dX11_foldAt_56 : decode cX11_foldAt 56 = .ok (.iload 4, 2) := by decide +kernel
theorem dX11_foldAt_58 : decode cX11_foldAt 58 = .ok (.iload 9, 2) := by decide +kernel
theorem dX11_foldAt_60 : decode cX11_foldAt 60 = .ok (.aload_n 0, 1) := by decide +kernel
theorem dX11_foldAt_61 : decode cX11_foldAt 61 = .ok (.getfield 19, 3) := by decide +kernel
theorem dX11_foldAt_64 : decode cX11_foldAt 64 = .ok (.iload_n 2, 1) := by decide +kernel
theorem dX11_foldAt_65 : decode cX11_foldAt 65 = .ok (.iaload, 1) := by decide +kernel
theorem dX11_foldAt_66 : decode cX11_foldAt 66 = .ok (.imul, 1) := by decide +kernel
theorem dX11_foldAt_67 : decode cX11_foldAt 67 = .ok (.isub, 1) := by decide +kernel
theorem dX11_foldAt_68 : decode cX11_foldAt 68 = .ok (.invokestatic 171, 3) := by decide +kernel
theorem dX11_foldAt_71 : decode cX11_foldAt 71 = .ok (.laload, 1) := by decide +kernel
theorem dX11_foldAt_72 : decode cX11_foldAt 72 = .ok (.lstore 10, 2) := by decide +kernel
theorem dX11_foldAt_74 : decode cX11_foldAt 74 = .ok (.aload_n 0, 1) := by decide +kernel
theorem dX11_foldAt_75 : decode cX11_foldAt 75 = .ok (.getfield 25, 3) := by decide +kernel
theorem dX11_foldAt_78 : decode cX11_foldAt 78 = .ok (.iload_n 2, 1) := by decide +kernel
theorem dX11_foldAt_79 : decode cX11_foldAt 79 = .ok (.laload, 1) := by decide +kernel
theorem dX11_foldAt_80 : decode cX11_foldAt 80 = .ok (.iload 9, 2) := by decide +kernel
theorem dX11_foldAt_82 : decode cX11_foldAt 82 = .ok (.lshr, 1) := by decide +kernel
theorem dX11_foldAt_83 : decode cX11_foldAt 83 = .ok (.lconst 1, 1) := by decide +kernel
theorem dX11_foldAt_84 : decode cX11_foldAt 84 = .ok (.land, 1) := by decide +kernel
theorem dX11_foldAt_85 : decode cX11_foldAt 85 = .ok (.lconst 1, 1) := by decide +kernel
theorem dX11_foldAt_86 : decode cX11_foldAt 86 = .ok (.lcmp, 1) := by decide +kernel
theorem dX11_foldAt_87 : decode cX11_foldAt 87 = .ok (.ifCond .ne 46, 3) := by decide +kernel
theorem dX11_foldAt_90 : decode cX11_foldAt 90 = .ok (.lload 10, 2) := by decide +kernel
theorem dX11_foldAt_92 : decode cX11_foldAt 92 = .ok (.ldc2_w 149, 3) := by decide +kernel
theorem dX11_foldAt_95 : decode cX11_foldAt 95 = .ok (.lcmp, 1) := by decide +kernel
theorem dX11_foldAt_96 : decode cX11_foldAt 96 = .ok (.ifCond .eq 37, 3) := by decide +kernel
theorem dX11_foldAt_99 : decode cX11_foldAt 99 = .ok (.iload_n 1, 1) := by decide +kernel
theorem dX11_foldAt_100 : decode cX11_foldAt 100 = .ok (.lload 5, 2) := by decide +kernel
theorem dX11_foldAt_102 : decode cX11_foldAt 102 = .ok (.iload_n 1, 1) := by decide +kernel
theorem dX11_foldAt_103 : decode cX11_foldAt 103 = .ok (.iconst 1, 1) := by decide +kernel
theorem dX11_foldAt_104 : decode cX11_foldAt 104 = .ok (.if_icmp .eq 8, 3) := by decide +kernel
theorem dX11_foldAt_107 : decode cX11_foldAt 107 = .ok (.iload_n 1, 1) := by decide +kernel
theorem dX11_foldAt_108 : decode cX11_foldAt 108 = .ok (.iconst 2, 1) := by decide +kernel
theorem dX11_foldAt_109 : decode cX11_foldAt 109 = .ok (.if_icmp .ne 12, 3) := by decide +kernel
theorem dX11_foldAt_112 : decode cX11_foldAt 112 = .ok (.lload 10, 2) := by decide +kernel
theorem dX11_foldAt_114 : decode cX11_foldAt 114 = .ok (.iload 9, 2) := by decide +kernel
theorem dX11_foldAt_116 : decode cX11_foldAt 116 = .ok (.i2l, 1) := by decide +kernel
theorem dX11_foldAt_117 : decode cX11_foldAt 117 = .ok (.ladd, 1) := by decide +kernel
theorem dX11_foldAt_118 : decode cX11_foldAt 118 = .ok (.goto 10, 3) := by decide +kernel
theorem dX11_foldAt_121 : decode cX11_foldAt 121 = .ok (.lload 10, 2) := by decide +kernel
theorem dX11_foldAt_123 : decode cX11_foldAt 123 = .ok (.lload 7, 2) := by decide +kernel
theorem dX11_foldAt_125 : decode cX11_foldAt 125 = .ok (.invokestatic 203, 3) := by decide +kernel
theorem dX11_foldAt_128 : decode cX11_foldAt 128 = .ok (.invokestatic 207, 3) := by decide +kernel
theorem dX11_foldAt_131 : decode cX11_foldAt 131 = .ok (.lstore 5, 2) := by decide +kernel
theorem dX11_foldAt_133 : decode cX11_foldAt 133 = .ok (.lload 7, 2) := by decide +kernel
theorem dX11_foldAt_135 : decode cX11_foldAt 135 = .ok (.aload_n 0, 1) := by decide +kernel
theorem dX11_foldAt_136 : decode cX11_foldAt 136 = .ok (.getfield 22, 3) := by decide +kernel
theorem dX11_foldAt_139 : decode cX11_foldAt 139 = .ok (.iload_n 2, 1) := by decide +kernel
theorem dX11_foldAt_140 : decode cX11_foldAt 140 = .ok (.iaload, 1) := by decide +kernel
theorem dX11_foldAt_141 : decode cX11_foldAt 141 = .ok (.i2l, 1) := by decide +kernel
theorem dX11_foldAt_142 : decode cX11_foldAt 142 = .ok (.invokestatic 203, 3) := by decide +kernel
theorem dX11_foldAt_145 : decode cX11_foldAt 145 = .ok (.lstore 7, 2) := by decide +kernel
theorem dX11_foldAt_147 : decode cX11_foldAt 147 = .ok (.iinc 9 1, 3) := by decide +kernel
theorem dX11_foldAt_150 : decode cX11_foldAt 150 = .ok (.goto (-139), 3) := by decide +kernel
theorem dX11_foldAt_153 : decode cX11_foldAt 153 = .ok (.lload 5, 2) := by decide +kernel
theorem dX11_foldAt_155 : decode cX11_foldAt 155 = .ok (.lreturn, 1) := by decide +kernel
theorem dX11_fold_0 : decode cX11_fold 0 = .ok (.iload_n 1, 1) := by decide +kernel
theorem dX11_fold_1 : decode cX11_fold 1 = .ok (.iconst 0, 1) := by decide +kernel
theorem dX11_fold_2 : decode cX11_fold 2 = .ok (.iconst 3, 1) := by decide +kernel
theorem dX11_fold_3 : decode cX11_fold 3 = .ok (.invokestatic 89, 3) := by decide +kernel
theorem dX11_fold_6 : decode cX11_fold 6 = .ok (.ifCond .eq 13, 3) := by decide +kernel
theorem dX11_fold_9 : decode cX11_fold 9 = .ok (.iload_n 2, 1) := by decide +kernel
theorem dX11_fold_10 : decode cX11_fold 10 = .ok (.iload_n 3, 1) := by decide +kernel
theorem dX11_fold_11 : decode cX11_fold 11 = .ok (.bipush 30, 2) := by decide +kernel
theorem dX11_fold_13 : decode cX11_fold 13 = .ok (.invokestatic 175, 3) := by decide +kernel
theorem dX11_fold_16 : decode cX11_fold 16 = .ok (.ifCond .ne 7, 3) := by decide +kernel
theorem dX11_fold_19 : decode cX11_fold 19 = .ok (.ldc2_w 178, 3) := by decide +kernel
theorem dX11_fold_22 : decode cX11_fold 22 = .ok (.lreturn, 1) := by decide +kernel
theorem dX11_fold_23 : decode cX11_fold 23 = .ok (.iconst 0, 1) := by decide +kernel
theorem dX11_fold_24 : decode cX11_fold 24 = .ok (.istore 4, 2) := by decide +kernel
theorem dX11_fold_26 : decode cX11_fold 26 = .ok (.iload 4, 2) := by decide +kernel
theorem dX11_fold_28 : decode cX11_fold 28 = .ok (.iload_n 2, 1) := by decide +kernel
theorem dX11_fold_29 : decode cX11_fold 29 = .ok (.if_icmp .gt 71, 3) := by decide +kernel
theorem dX11_fold_32 : decode cX11_fold 32 = .ok (.iconst 0, 1) := by decide +kernel
theorem dX11_fold_33 : decode cX11_fold 33 = .ok (.istore 5, 2) := by decide +kernel
theorem dX11_fold_35 : decode cX11_fold 35 = .ok (.iload 5, 2) := by decide +kernel
theorem dX11_fold_37 : decode cX11_fold 37 = .ok (.iload_n 3, 1) := by decide +kernel
theorem dX11_fold_38 : decode cX11_fold 38 = .ok (.if_icmp .gt 56, 3) := by decide +kernel
theorem dX11_fold_41 : decode cX11_fold 41 = .ok (.aload_n 0, 1) := by decide +kernel
theorem dX11_fold_42 : decode cX11_fold 42 = .ok (.getfield 62, 3) := by decide +kernel
theorem dX11_fold_45 : decode cX11_fold 45 = .ok (.aload_n 0, 1) := by decide +kernel
theorem dX11_fold_46 : decode cX11_fold 46 = .ok (.getfield 86, 3) := by decide +kernel
theorem dX11_fold_49 : decode cX11_fold 49 = .ok (.iload 4, 2) := by decide +kernel
theorem dX11_fold_51 : decode cX11_fold 51 = .ok (.iload 5, 2) := by decide +kernel
theorem dX11_fold_53 : decode cX11_fold 53 = .ok (.invokestatic 171, 3) := by decide +kernel
theorem dX11_fold_56 : decode cX11_fold 56 = .ok (.iload 4, 2) := by decide +kernel
theorem dX11_fold_58 : decode cX11_fold 58 = .ok (.ifCond .ne 26, 3) := by decide +kernel
theorem dX11_fold_61 : decode cX11_fold 61 = .ok (.iload 5, 2) := by decide +kernel
theorem dX11_fold_63 : decode cX11_fold 63 = .ok (.ifCond .ne 21, 3) := by decide +kernel
theorem dX11_fold_66 : decode cX11_fold 66 = .ok (.iload_n 1, 1) := by decide +kernel
theorem dX11_fold_67 : decode cX11_fold 67 = .ok (.iconst 1, 1) := by decide +kernel
theorem dX11_fold_68 : decode cX11_fold 68 = .ok (.if_icmp .eq 8, 3) := by decide +kernel
theorem dX11_fold_71 : decode cX11_fold 71 = .ok (.iload_n 1, 1) := by decide +kernel
theorem dX11_fold_72 : decode cX11_fold 72 = .ok (.iconst 2, 1) := by decide +kernel
theorem dX11_fold_73 : decode cX11_fold 73 = .ok (.if_icmp .ne 7, 3) := by decide +kernel
theorem dX11_fold_76 : decode cX11_fold 76 = .ok (.lconst 0, 1) := by decide +kernel
theorem dX11_fold_77 : decode cX11_fold 77 = .ok (.goto 10, 3) := by decide +kernel
theorem dX11_fold_80 : decode cX11_fold 80 = .ok (.lconst 1, 1) := by decide +kernel
theorem dX11_fold_81 : decode cX11_fold 81 = .ok (.goto 6, 3) := by decide +kernel
theorem dX11_fold_84 : decode cX11_fold 84 = .ok (.ldc2_w 149, 3) := by decide +kernel
theorem dX11_fold_87 : decode cX11_fold 87 = .ok (.lastore, 1) := by decide +kernel
theorem dX11_fold_88 : decode cX11_fold 88 = .ok (.iinc 5 1, 3) := by decide +kernel
theorem dX11_fold_91 : decode cX11_fold 91 = .ok (.goto (-56), 3) := by decide +kernel
theorem dX11_fold_94 : decode cX11_fold 94 = .ok (.iinc 4 1, 3) := by decide +kernel
theorem dX11_fold_97 : decode cX11_fold 97 = .ok (.goto (-71), 3) := by decide +kernel
theorem dX11_fold_100 : decode cX11_fold 100 = .ok (.aload_n 0, 1) := by decide +kernel
theorem dX11_fold_101 : decode cX11_fold 101 = .ok (.getfield 86, 3) := by decide +kernel
theorem dX11_fold_104 : decode cX11_fold 104 = .ok (.iconst 1, 1) := by decide +kernel
theorem dX11_fold_105 : decode cX11_fold 105 = .ok (.isub, 1) := by decide +kernel
theorem dX11_fold_106 : decode cX11_fold 106 = .ok (.istore 4, 2) := by decide +kernel
theorem dX11_fold_108 : decode cX11_fold 108 = .ok (.iload 4, 2) := by decide +kernel
theorem dX11_fold_110 : decode cX11_fold 110 = .ok (.ifCond .lt 64, 3) := by decide +kernel
theorem dX11_fold_113 : decode cX11_fold 113 = .ok (.iconst 0, 1) := by decide +kernel
theorem dX11_fold_114 : decode cX11_fold 114 = .ok (.istore 5, 2) := by decide +kernel
theorem dX11_fold_116 : decode cX11_fold 116 = .ok (.iload 5, 2) := by decide +kernel
theorem dX11_fold_118 : decode cX11_fold 118 = .ok (.iload_n 2, 1) := by decide +kernel
theorem dX11_fold_119 : decode cX11_fold 119 = .ok (.if_icmp .gt 49, 3) := by decide +kernel
theorem dX11_fold_122 : decode cX11_fold 122 = .ok (.iconst 0, 1) := by decide +kernel
theorem dX11_fold_123 : decode cX11_fold 123 = .ok (.istore 6, 2) := by decide +kernel
theorem dX11_fold_125 : decode cX11_fold 125 = .ok (.iload 6, 2) := by decide +kernel
theorem dX11_fold_127 : decode cX11_fold 127 = .ok (.iload_n 3, 1) := by decide +kernel
theorem dX11_fold_128 : decode cX11_fold 128 = .ok (.if_icmp .gt 34, 3) := by decide +kernel
theorem dX11_fold_131 : decode cX11_fold 131 = .ok (.aload_n 0, 1) := by decide +kernel
theorem dX11_fold_132 : decode cX11_fold 132 = .ok (.getfield 62, 3) := by decide +kernel
theorem dX11_fold_135 : decode cX11_fold 135 = .ok (.iload 4, 2) := by decide +kernel
theorem dX11_fold_137 : decode cX11_fold 137 = .ok (.iload 5, 2) := by decide +kernel
theorem dX11_fold_139 : decode cX11_fold 139 = .ok (.iload 6, 2) := by decide +kernel
theorem dX11_fold_141 : decode cX11_fold 141 = .ok (.invokestatic 171, 3) := by decide +kernel
theorem dX11_fold_144 : decode cX11_fold 144 = .ok (.aload_n 0, 1) := by decide +kernel
theorem dX11_fold_145 : decode cX11_fold 145 = .ok (.iload_n 1, 1) := by decide +kernel
theorem dX11_fold_146 : decode cX11_fold 146 = .ok (.iload 4, 2) := by decide +kernel
theorem dX11_fold_148 : decode cX11_fold 148 = .ok (.iload 5, 2) := by decide +kernel
theorem dX11_fold_150 : decode cX11_fold 150 = .ok (.iload 6, 2) := by decide +kernel
theorem dX11_fold_152 : decode cX11_fold 152 = .ok (.invokevirtual 211, 3) := by decide +kernel
theorem dX11_fold_155 : decode cX11_fold 155 = .ok (.lastore, 1) := by decide +kernel
theorem dX11_fold_156 : decode cX11_fold 156 = .ok (.iinc 6 1, 3) := by decide +kernel
theorem dX11_fold_159 : decode cX11_fold 159 = .ok (.goto (-34), 3) := by decide +kernel
theorem dX11_fold_162 : decode cX11_fold 162 = .ok (.iinc 5 1, 3) := by decide +kernel
theorem dX11_fold_165 : decode cX11_fold 165 = .ok (.goto (-49), 3) := by decide +kernel
theorem dX11_fold_168 : decode cX11_fold 168 = .ok (.iinc 4 (-1), 3) := by decide +kernel
theorem dX11_fold_171 : decode cX11_fold 171 = .ok (.goto (-63), 3) := by decide +kernel
theorem dX11_fold_174 : decode cX11_fold 174 = .ok (.aload_n 0, 1) := by decide +kernel
theorem dX11_fold_175 : decode cX11_fold 175 = .ok (.getfield 62, 3) := by decide +kernel
theorem dX11_fold_178 : decode cX11_fold 178 = .ok (.iconst 0, 1) := by decide +kernel
theorem dX11_fold_179 : decode cX11_fold 179 = .ok (.iload_n 2, 1) := by decide +kernel
theorem dX11_fold_180 : decode cX11_fold 180 = .ok (.iload_n 3, 1) := by decide +kernel
theorem dX11_fold_181 : decode cX11_fold 181 = .ok (.invokestatic 171, 3) := by decide +kernel
theorem dX11_fold_184 : decode cX11_fold 184 = .ok (.laload, 1) := by decide +kernel
theorem dX11_fold_185 : decode cX11_fold 185 = .ok (.lstore 4, 2) := by decide +kernel
theorem dX11_fold_187 : decode cX11_fold 187 = .ok (.lload 4, 2) := by decide +kernel
theorem dX11_fold_189 : decode cX11_fold 189 = .ok (.ldc2_w 149, 3) := by decide +kernel
theorem dX11_fold_192 : decode cX11_fold 192 = .ok (.lcmp, 1) := by decide +kernel
theorem dX11_fold_193 : decode cX11_fold 193 = .ok (.ifCond .ne 17, 3) := by decide +kernel
theorem dX11_fold_196 : decode cX11_fold 196 = .ok (.iload_n 1, 1) := by decide +kernel
theorem dX11_fold_197 : decode cX11_fold 197 = .ok (.ifCond .ne 7, 3) := by decide +kernel
theorem dX11_fold_200 : decode cX11_fold 200 = .ok (.lconst 0, 1) := by decide +kernel
theorem dX11_fold_201 : decode cX11_fold 201 = .ok (.goto 26, 3) := by decide +kernel
theorem dX11_fold_204 : decode cX11_fold 204 = .ok (.ldc2_w 215, 3) := by decide +kernel
theorem dX11_fold_207 : decode cX11_fold 207 = .ok (.goto 20, 3) := by decide +kernel
theorem dX11_fold_210 : decode cX11_fold 210 = .ok (.lload 4, 2) := by decide +kernel
theorem dX11_fold_212 : decode cX11_fold 212 = .ok (.ldc2_w 199, 3) := by decide +kernel
theorem dX11_fold_215 : decode cX11_fold 215 = .ok (.lcmp, 1) := by decide +kernel
theorem dX11_fold_216 : decode cX11_fold 216 = .ok (.ifCond .ne 9, 3) := by decide +kernel
theorem dX11_fold_219 : decode cX11_fold 219 = .ok (.ldc2_w 217, 3) := by decide +kernel
theorem dX11_fold_222 : decode cX11_fold 222 = .ok (.goto 5, 3) := by decide +kernel
theorem dX11_fold_225 : decode cX11_fold 225 = .ok (.lload 4, 2) := by decide +kernel
theorem dX11_fold_227 : decode cX11_fold 227 = .ok (.lreturn, 1) := by decide +kernel
theorem dX11_common_0 : decode cX11_common 0 = .ok (.iload_n 0, 1) := by decide +kernel
theorem dX11_common_1 : decode cX11_common 1 = .ok (.istore_n 2, 1) := by decide +kernel
theorem dX11_common_2 : decode cX11_common 2 = .ok (.iload_n 1, 1) := by decide +kernel
theorem dX11_common_3 : decode cX11_common 3 = .ok (.istore_n 3, 1) := by decide +kernel
theorem dX11_common_4 : decode cX11_common 4 = .ok (.iload_n 3, 1) := by decide +kernel
theorem dX11_common_5 : decode cX11_common 5 = .ok (.ifCond .eq 16, 3) := by decide +kernel
theorem dX11_common_8 : decode cX11_common 8 = .ok (.iload_n 2, 1) := by decide +kernel
theorem dX11_common_9 : decode cX11_common 9 = .ok (.iload_n 3, 1) := by decide +kernel
theorem dX11_common_10 : decode cX11_common 10 = .ok (.irem, 1) := by decide +kernel
theorem dX11_common_11 : decode cX11_common 11 = .ok (.istore 4, 2) := by decide +kernel
theorem dX11_common_13 : decode cX11_common 13 = .ok (.iload_n 3, 1) := by decide +kernel
theorem dX11_common_14 : decode cX11_common 14 = .ok (.istore_n 2, 1) := by decide +kernel
theorem dX11_common_15 : decode cX11_common 15 = .ok (.iload 4, 2) := by decide +kernel
theorem dX11_common_17 : decode cX11_common 17 = .ok (.istore_n 3, 1) := by decide +kernel
theorem dX11_common_18 : decode cX11_common 18 = .ok (.goto (-14), 3) := by decide +kernel
theorem dX11_common_21 : decode cX11_common 21 = .ok (.iload_n 2, 1) := by decide +kernel
theorem dX11_common_22 : decode cX11_common 22 = .ok (.ireturn, 1) := by decide +kernel
theorem dX11_det_0 : decode cX11_det 0 = .ok (.aload_n 0, 1) := by decide +kernel
theorem dX11_det_1 : decode cX11_det 1 = .ok (.getfield 15, 3) := by decide +kernel
theorem dX11_det_4 : decode cX11_det 4 = .ok (.iload_n 1, 1) := by decide +kernel
theorem dX11_det_5 : decode cX11_det 5 = .ok (.iaload, 1) := by decide +kernel
theorem dX11_det_6 : decode cX11_det 6 = .ok (.aload_n 0, 1) := by decide +kernel
theorem dX11_det_7 : decode cX11_det 7 = .ok (.getfield 19, 3) := by decide +kernel
theorem dX11_det_10 : decode cX11_det 10 = .ok (.iload_n 2, 1) := by decide +kernel
theorem dX11_det_11 : decode cX11_det 11 = .ok (.iaload, 1) := by decide +kernel
theorem dX11_det_12 : decode cX11_det 12 = .ok (.imul, 1) := by decide +kernel
theorem dX11_det_13 : decode cX11_det 13 = .ok (.aload_n 0, 1) := by decide +kernel
theorem dX11_det_14 : decode cX11_det 14 = .ok (.getfield 19, 3) := by decide +kernel
theorem dX11_det_17 : decode cX11_det 17 = .ok (.iload_n 1, 1) := by decide +kernel
theorem dX11_det_18 : decode cX11_det 18 = .ok (.iaload, 1) := by decide +kernel
theorem dX11_det_19 : decode cX11_det 19 = .ok (.aload_n 0, 1) := by decide +kernel
theorem dX11_det_20 : decode cX11_det 20 = .ok (.getfield 15, 3) := by decide +kernel
theorem dX11_det_23 : decode cX11_det 23 = .ok (.iload_n 2, 1) := by decide +kernel
theorem dX11_det_24 : decode cX11_det 24 = .ok (.iaload, 1) := by decide +kernel
theorem dX11_det_25 : decode cX11_det 25 = .ok (.imul, 1) := by decide +kernel
theorem dX11_det_26 : decode cX11_det 26 = .ok (.isub, 1) := by decide +kernel
theorem dX11_det_27 : decode cX11_det 27 = .ok (.ireturn, 1) := by decide +kernel
theorem dX11_findRays_0 : decode cX11_findRays 0 = .ok (.aload_n 0, 1) := by decide +kernel
theorem dX11_findRays_1 : decode cX11_findRays 1 = .ok (.iconst 0, 1) := by decide +kernel
theorem dX11_findRays_2 : decode cX11_findRays 2 = .ok (.putfield 219, 3) := by decide +kernel
theorem dX11_findRays_5 : decode cX11_findRays 5 = .ok (.iconst 0, 1) := by decide +kernel
theorem dX11_findRays_6 : decode cX11_findRays 6 = .ok (.istore_n 1, 1) := by decide +kernel
theorem dX11_findRays_7 : decode cX11_findRays 7 = .ok (.iload_n 1, 1) := by decide +kernel
theorem dX11_findRays_8 : decode cX11_findRays 8 = .ok (.aload_n 0, 1) := by decide +kernel
theorem dX11_findRays_9 : decode cX11_findRays 9 = .ok (.getfield 86, 3) := by decide +kernel
theorem dX11_findRays_12 : decode cX11_findRays 12 = .ok (.if_icmp .ge 208, 3) := by decide +kernel
theorem dX11_findRays_15 : decode cX11_findRays 15 = .ok (.iconst 1, 1) := by decide +kernel
theorem dX11_findRays_16 : decode cX11_findRays 16 = .ok (.istore_n 2, 1) := by decide +kernel
theorem dX11_findRays_17 : decode cX11_findRays 17 = .ok (.iconst 0, 1) := by decide +kernel
theorem dX11_findRays_18 : decode cX11_findRays 18 = .ok (.istore_n 3, 1) := by decide +kernel
theorem dX11_findRays_19 : decode cX11_findRays 19 = .ok (.iconst 0, 1) := by decide +kernel
theorem dX11_findRays_20 : decode cX11_findRays 20 = .ok (.istore 4, 2) := by decide +kernel
theorem dX11_findRays_22 : decode cX11_findRays 22 = .ok (.iload 4, 2) := by decide +kernel
theorem dX11_findRays_24 : decode cX11_findRays 24 = .ok (.aload_n 0, 1) := by decide +kernel
theorem dX11_findRays_25 : decode cX11_findRays 25 = .ok (.getfield 86, 3) := by decide +kernel
theorem dX11_findRays_28 : decode cX11_findRays 28 = .ok (.if_icmp .ge 35, 3) := by decide +kernel
theorem dX11_findRays_31 : decode cX11_findRays 31 = .ok (.iload_n 2, 1) := by decide +kernel
theorem dX11_findRays_32 : decode cX11_findRays 32 = .ok (.ifCond .eq 23, 3) := by decide +kernel
theorem dX11_findRays_35 : decode cX11_findRays 35 = .ok (.iload 4, 2) := by decide +kernel
theorem dX11_findRays_37 : decode cX11_findRays 37 = .ok (.iload_n 1, 1) := by decide +kernel
theorem dX11_findRays_38 : decode cX11_findRays 38 = .ok (.if_icmp .ge 13, 3) := by decide +kernel
theorem dX11_findRays_41 : decode cX11_findRays 41 = .ok (.aload_n 0, 1) := by decide +kernel
theorem dX11_findRays_42 : decode cX11_findRays 42 = .ok (.iload_n 1, 1) := by decide +kernel
theorem dX11_findRays_43 : decode cX11_findRays 43 = .ok (.iload 4, 2) := by decide +kernel
theorem dX11_findRays_45 : decode cX11_findRays 45 = .ok (.invokevirtual 222, 3) := by decide +kernel
theorem dX11_findRays_48 : decode cX11_findRays 48 = .ok (.ifCond .eq 7, 3) := by decide +kernel
theorem dX11_findRays_51 : decode cX11_findRays 51 = .ok (.iconst 1, 1) := by decide +kernel
theorem dX11_findRays_52 : decode cX11_findRays 52 = .ok (.goto 4, 3) := by decide +kernel
theorem dX11_findRays_55 : decode cX11_findRays 55 = .ok (.iconst 0, 1) := by decide +kernel
theorem dX11_findRays_56 : decode cX11_findRays 56 = .ok (.istore_n 2, 1) := by decide +kernel
theorem dX11_findRays_57 : decode cX11_findRays 57 = .ok (.iinc 4 1, 3) := by decide +kernel
theorem dX11_findRays_60 : decode cX11_findRays 60 = .ok (.goto (-38), 3) := by decide +kernel
theorem dX11_findRays_63 : decode cX11_findRays 63 = .ok (.iconst 0, 1) := by decide +kernel
theorem dX11_findRays_64 : decode cX11_findRays 64 = .ok (.istore 4, 2) := by decide +kernel
theorem dX11_findRays_66 : decode cX11_findRays 66 = .ok (.iload 4, 2) := by decide +kernel
theorem dX11_findRays_68 : decode cX11_findRays 68 = .ok (.aload_n 0, 1) := by decide +kernel
theorem dX11_findRays_69 : decode cX11_findRays 69 = .ok (.getfield 86, 3) := by decide +kernel
theorem dX11_findRays_72 : decode cX11_findRays 72 = .ok (.if_icmp .ge 74, 3) := by decide +kernel
theorem dX11_findRays_75 : decode cX11_findRays 75 = .ok (.iconst 1, 1) := by decide +kernel
theorem dX11_findRays_76 : decode cX11_findRays 76 = .ok (.istore 5, 2) := by decide +kernel
theorem dX11_findRays_78 : decode cX11_findRays 78 = .ok (.iconst 0, 1) := by decide +kernel
theorem dX11_findRays_79 : decode cX11_findRays 79 = .ok (.istore 6, 2) := by decide +kernel
theorem dX11_findRays_81 : decode cX11_findRays 81 = .ok (.iload 6, 2) := by decide +kernel
theorem dX11_findRays_83 : decode cX11_findRays 83 = .ok (.iload 4, 2) := by decide +kernel
theorem dX11_findRays_85 : decode cX11_findRays 85 = .ok (.if_icmp .ge 32, 3) := by decide +kernel
theorem dX11_findRays_88 : decode cX11_findRays 88 = .ok (.iload 5, 2) := by decide +kernel
theorem dX11_findRays_90 : decode cX11_findRays 90 = .ok (.ifCond .eq 18, 3) := by decide +kernel
theorem dX11_findRays_93 : decode cX11_findRays 93 = .ok (.aload_n 0, 1) := by decide +kernel
theorem dX11_findRays_94 : decode cX11_findRays 94 = .ok (.iload 4, 2) := by decide +kernel
theorem dX11_findRays_96 : decode cX11_findRays 96 = .ok (.iload 6, 2) := by decide +kernel
theorem dX11_findRays_98 : decode cX11_findRays 98 = .ok (.invokevirtual 222, 3) := by decide +kernel
theorem dX11_findRays_101 : decode cX11_findRays 101 = .ok (.ifCond .eq 7, 3) := by decide +kernel
theorem dX11_findRays_104 : decode cX11_findRays 104 = .ok (.iconst 1, 1) := by decide +kernel
theorem dX11_findRays_105 : decode cX11_findRays 105 = .ok (.goto 4, 3) := by decide +kernel
theorem dX11_findRays_108 : decode cX11_findRays 108 = .ok (.iconst 0, 1) := by decide +kernel
theorem dX11_findRays_109 : decode cX11_findRays 109 = .ok (.istore 5, 2) := by decide +kernel
theorem dX11_findRays_111 : decode cX11_findRays 111 = .ok (.iinc 6 1, 3) := by decide +kernel
theorem dX11_findRays_114 : decode cX11_findRays 114 = .ok (.goto (-33), 3) := by decide +kernel
theorem dX11_findRays_117 : decode cX11_findRays 117 = .ok (.iload_n 3, 1) := by decide +kernel
theorem dX11_findRays_118 : decode cX11_findRays 118 = .ok (.iload 5, 2) := by decide +kernel
theorem dX11_findRays_120 : decode cX11_findRays 120 = .ok (.ifCond .eq 17, 3) := by decide +kernel
theorem dX11_findRays_123 : decode cX11_findRays 123 = .ok (.aload_n 0, 1) := by decide +kernel
theorem dX11_findRays_124 : decode cX11_findRays 124 = .ok (.iload 4, 2) := by decide +kernel
theorem dX11_findRays_126 : decode cX11_findRays 126 = .ok (.iload_n 1, 1) := by decide +kernel
theorem dX11_findRays_127 : decode cX11_findRays 127 = .ok (.invokevirtual 222, 3) := by decide +kernel
theorem dX11_findRays_130 : decode cX11_findRays 130 = .ok (.ifCond .le 7, 3) := by decide +kernel
theorem dX11_findRays_133 : decode cX11_findRays 133 = .ok (.iconst 1, 1) := by decide +kernel
theorem dX11_findRays_134 : decode cX11_findRays 134 = .ok (.goto 4, 3) := by decide +kernel
theorem dX11_findRays_137 : decode cX11_findRays 137 = .ok (.iconst 0, 1) := by decide +kernel
theorem dX11_findRays_138 : decode cX11_findRays 138 = .ok (.iadd, 1) := by decide +kernel
theorem dX11_findRays_139 : decode cX11_findRays 139 = .ok (.istore_n 3, 1) := by decide +kernel
theorem dX11_findRays_140 : decode cX11_findRays 140 = .ok (.iinc 4 1, 3) := by decide +kernel
theorem dX11_findRays_143 : decode cX11_findRays 143 = .ok (.goto (-77), 3) := by decide +kernel
theorem dX11_findRays_146 : decode cX11_findRays 146 = .ok (.iload_n 2, 1) := by decide +kernel
theorem dX11_findRays_147 : decode cX11_findRays 147 = .ok (.ifCond .eq 67, 3) := by decide +kernel
theorem dX11_findRays_150 : decode cX11_findRays 150 = .ok (.aload_n 0, 1) := by decide +kernel
theorem dX11_findRays_151 : decode cX11_findRays 151 = .ok (.getfield 15, 3) := by decide +kernel
theorem dX11_findRays_154 : decode cX11_findRays 154 = .ok (.iload_n 1, 1) := by decide +kernel
theorem dX11_findRays_155 : decode cX11_findRays 155 = .ok (.iaload, 1) := by decide +kernel
theorem dX11_findRays_156 : decode cX11_findRays 156 = .ok (.aload_n 0, 1) := by decide +kernel
theorem dX11_findRays_157 : decode cX11_findRays 157 = .ok (.getfield 19, 3) := by decide +kernel
theorem dX11_findRays_160 : decode cX11_findRays 160 = .ok (.iload_n 1, 1) := by decide +kernel
theorem dX11_findRays_161 : decode cX11_findRays 161 = .ok (.iaload, 1) := by decide +kernel
theorem dX11_findRays_162 : decode cX11_findRays 162 = .ok (.invokestatic 225, 3) := by decide +kernel
theorem dX11_findRays_165 : decode cX11_findRays 165 = .ok (.istore 4, 2) := by decide +kernel
theorem dX11_findRays_167 : decode cX11_findRays 167 = .ok (.aload_n 0, 1) := by decide +kernel
theorem dX11_findRays_168 : decode cX11_findRays 168 = .ok (.getfield 68, 3) := by decide +kernel
theorem dX11_findRays_171 : decode cX11_findRays 171 = .ok (.iload_n 3, 1) := by decide +kernel
theorem dX11_findRays_172 : decode cX11_findRays 172 = .ok (.aload_n 0, 1) := by decide +kernel
theorem dX11_findRays_173 : decode cX11_findRays 173 = .ok (.getfield 15, 3) := by decide +kernel
theorem dX11_findRays_176 : decode cX11_findRays 176 = .ok (.iload_n 1, 1) := by decide +kernel
theorem dX11_findRays_177 : decode cX11_findRays 177 = .ok (.iaload, 1) := by decide +kernel
theorem dX11_findRays_178 : decode cX11_findRays 178 = .ok (.iload 4, 2) := by decide +kernel
theorem dX11_findRays_180 : decode cX11_findRays 180 = .ok (.idiv, 1) := by decide +kernel
theorem dX11_findRays_181 : decode cX11_findRays 181 = .ok (.iastore, 1) := by decide +kernel
theorem dX11_findRays_182 : decode cX11_findRays 182 = .ok (.aload_n 0, 1) := by decide +kernel
theorem dX11_findRays_183 : decode cX11_findRays 183 = .ok (.getfield 71, 3) := by decide +kernel
theorem dX11_findRays_186 : decode cX11_findRays 186 = .ok (.iload_n 3, 1) := by decide +kernel
theorem dX11_findRays_187 : decode cX11_findRays 187 = .ok (.aload_n 0, 1) := by decide +kernel
theorem dX11_findRays_188 : decode cX11_findRays 188 = .ok (.getfield 19, 3) := by decide +kernel
theorem dX11_findRays_191 : decode cX11_findRays 191 = .ok (.iload_n 1, 1) := by decide +kernel
theorem dX11_findRays_192 : decode cX11_findRays 192 = .ok (.iaload, 1) := by decide +kernel
theorem dX11_findRays_193 : decode cX11_findRays 193 = .ok (.iload 4, 2) := by decide +kernel
theorem dX11_findRays_195 : decode cX11_findRays 195 = .ok (.idiv, 1) := by decide +kernel
theorem dX11_findRays_196 : decode cX11_findRays 196 = .ok (.iastore, 1) := by decide +kernel
theorem dX11_findRays_197 : decode cX11_findRays 197 = .ok (.aload_n 0, 1) := by decide +kernel
theorem dX11_findRays_198 : decode cX11_findRays 198 = .ok (.getfield 74, 3) := by decide +kernel
theorem dX11_findRays_201 : decode cX11_findRays 201 = .ok (.iload_n 3, 1) := by decide +kernel
theorem dX11_findRays_202 : decode cX11_findRays 202 = .ok (.iconst 0, 1) := by decide +kernel
theorem dX11_findRays_203 : decode cX11_findRays 203 = .ok (.iastore, 1) := by decide +kernel
theorem dX11_findRays_204 : decode cX11_findRays 204 = .ok (.aload_n 0, 1) := by decide +kernel
theorem dX11_findRays_205 : decode cX11_findRays 205 = .ok (.dup, 1) := by decide +kernel
theorem dX11_findRays_206 : decode cX11_findRays 206 = .ok (.getfield 219, 3) := by decide +kernel
theorem dX11_findRays_209 : decode cX11_findRays 209 = .ok (.iconst 1, 1) := by decide +kernel
theorem dX11_findRays_210 : decode cX11_findRays 210 = .ok (.iadd, 1) := by decide +kernel
theorem dX11_findRays_211 : decode cX11_findRays 211 = .ok (.putfield 219, 3) := by decide +kernel
theorem dX11_findRays_214 : decode cX11_findRays 214 = .ok (.iinc 1 1, 3) := by decide +kernel
theorem dX11_findRays_217 : decode cX11_findRays 217 = .ok (.goto (-210), 3) := by decide +kernel
theorem dX11_findRays_220 : decode cX11_findRays 220 = .ok (.iconst 0, 1) := by decide +kernel
theorem dX11_findRays_221 : decode cX11_findRays 221 = .ok (.istore_n 1, 1) := by decide +kernel
theorem dX11_findRays_222 : decode cX11_findRays 222 = .ok (.iload_n 1, 1) := by decide +kernel
theorem dX11_findRays_223 : decode cX11_findRays 223 = .ok (.aload_n 0, 1) := by decide +kernel
theorem dX11_findRays_224 : decode cX11_findRays 224 = .ok (.getfield 86, 3) := by decide +kernel
theorem dX11_findRays_227 : decode cX11_findRays 227 = .ok (.if_icmp .ge 68, 3) := by decide +kernel
theorem dX11_findRays_230 : decode cX11_findRays 230 = .ok (.iconst 0, 1) := by decide +kernel
theorem dX11_findRays_231 : decode cX11_findRays 231 = .ok (.istore_n 2, 1) := by decide +kernel
theorem dX11_findRays_232 : decode cX11_findRays 232 = .ok (.iload_n 2, 1) := by decide +kernel
theorem dX11_findRays_233 : decode cX11_findRays 233 = .ok (.aload_n 0, 1) := by decide +kernel
theorem dX11_findRays_234 : decode cX11_findRays 234 = .ok (.getfield 219, 3) := by decide +kernel
theorem dX11_findRays_237 : decode cX11_findRays 237 = .ok (.if_icmp .ge 52, 3) := by decide +kernel
theorem dX11_findRays_240 : decode cX11_findRays 240 = .ok (.aload_n 0, 1) := by decide +kernel
theorem dX11_findRays_241 : decode cX11_findRays 241 = .ok (.getfield 74, 3) := by decide +kernel
theorem dX11_findRays_244 : decode cX11_findRays 244 = .ok (.iload_n 2, 1) := by decide +kernel
theorem dX11_findRays_245 : decode cX11_findRays 245 = .ok (.dup2, 1) := by decide +kernel
theorem dX11_findRays_246 : decode cX11_findRays 246 = .ok (.iaload, 1) := by decide +kernel
theorem dX11_findRays_247 : decode cX11_findRays 247 = .ok (.aload_n 0, 1) := by decide +kernel
theorem dX11_findRays_248 : decode cX11_findRays 248 = .ok (.getfield 15, 3) := by decide +kernel
theorem dX11_findRays_251 : decode cX11_findRays 251 = .ok (.iload_n 1, 1) := by decide +kernel
theorem dX11_findRays_252 : decode cX11_findRays 252 = .ok (.iaload, 1) := by decide +kernel
theorem dX11_findRays_253 : decode cX11_findRays 253 = .ok (.aload_n 0, 1) := by decide +kernel
theorem dX11_findRays_254 : decode cX11_findRays 254 = .ok (.getfield 71, 3) := by decide +kernel
theorem dX11_findRays_257 : decode cX11_findRays 257 = .ok (.iload_n 2, 1) := by decide +kernel
theorem dX11_findRays_258 : decode cX11_findRays 258 = .ok (.iaload, 1) := by decide +kernel
theorem dX11_findRays_259 : decode cX11_findRays 259 = .ok (.imul, 1) := by decide +kernel
theorem dX11_findRays_260 : decode cX11_findRays 260 = .ok (.aload_n 0, 1) := by decide +kernel
theorem dX11_findRays_261 : decode cX11_findRays 261 = .ok (.getfield 19, 3) := by decide +kernel
theorem dX11_findRays_264 : decode cX11_findRays 264 = .ok (.iload_n 1, 1) := by decide +kernel
theorem dX11_findRays_265 : decode cX11_findRays 265 = .ok (.iaload, 1) := by decide +kernel
theorem dX11_findRays_266 : decode cX11_findRays 266 = .ok (.aload_n 0, 1) := by decide +kernel
theorem dX11_findRays_267 : decode cX11_findRays 267 = .ok (.getfield 68, 3) := by decide +kernel
theorem dX11_findRays_270 : decode cX11_findRays 270 = .ok (.iload_n 2, 1) := by decide +kernel
theorem dX11_findRays_271 : decode cX11_findRays 271 = .ok (.iaload, 1) := by decide +kernel
theorem dX11_findRays_272 : decode cX11_findRays 272 = .ok (.imul, 1) := by decide +kernel
theorem dX11_findRays_273 : decode cX11_findRays 273 = .ok (.if_icmp .ne 7, 3) := by decide +kernel
theorem dX11_findRays_276 : decode cX11_findRays 276 = .ok (.iconst 1, 1) := by decide +kernel
theorem dX11_findRays_277 : decode cX11_findRays 277 = .ok (.goto 4, 3) := by decide +kernel
theorem dX11_findRays_280 : decode cX11_findRays 280 = .ok (.iconst 0, 1) := by decide +kernel
theorem dX11_findRays_281 : decode cX11_findRays 281 = .ok (.iadd, 1) := by decide +kernel
theorem dX11_findRays_282 : decode cX11_findRays 282 = .ok (.iastore, 1) := by decide +kernel
theorem dX11_findRays_283 : decode cX11_findRays 283 = .ok (.iinc 2 1, 3) := by decide +kernel
theorem dX11_findRays_286 : decode cX11_findRays 286 = .ok (.goto (-54), 3) := by decide +kernel
theorem dX11_findRays_289 : decode cX11_findRays 289 = .ok (.iinc 1 1, 3) := by decide +kernel
theorem dX11_findRays_292 : decode cX11_findRays 292 = .ok (.goto (-70), 3) := by decide +kernel
theorem dX11_findRays_295 : decode cX11_findRays 295 = .ok (.return_, 1) := by decide +kernel
theorem dX11_rayOf_0 : decode cX11_rayOf 0 = .ok (.aload_n 0, 1) := by decide +kernel
theorem dX11_rayOf_1 : decode cX11_rayOf 1 = .ok (.invokevirtual 228, 3) := by decide +kernel
theorem dX11_rayOf_4 : decode cX11_rayOf 4 = .ok (.iconst 0, 1) := by decide +kernel
theorem dX11_rayOf_5 : decode cX11_rayOf 5 = .ok (.istore_n 2, 1) := by decide +kernel
theorem dX11_rayOf_6 : decode cX11_rayOf 6 = .ok (.aload_n 0, 1) := by decide +kernel
theorem dX11_rayOf_7 : decode cX11_rayOf 7 = .ok (.getfield 15, 3) := by decide +kernel
theorem dX11_rayOf_10 : decode cX11_rayOf 10 = .ok (.iload_n 1, 1) := by decide +kernel
theorem dX11_rayOf_11 : decode cX11_rayOf 11 = .ok (.iaload, 1) := by decide +kernel
theorem dX11_rayOf_12 : decode cX11_rayOf 12 = .ok (.aload_n 0, 1) := by decide +kernel
theorem dX11_rayOf_13 : decode cX11_rayOf 13 = .ok (.getfield 71, 3) := by decide +kernel
theorem dX11_rayOf_16 : decode cX11_rayOf 16 = .ok (.iload_n 2, 1) := by decide +kernel
theorem dX11_rayOf_17 : decode cX11_rayOf 17 = .ok (.iaload, 1) := by decide +kernel
theorem dX11_rayOf_18 : decode cX11_rayOf 18 = .ok (.imul, 1) := by decide +kernel
theorem dX11_rayOf_19 : decode cX11_rayOf 19 = .ok (.aload_n 0, 1) := by decide +kernel
theorem dX11_rayOf_20 : decode cX11_rayOf 20 = .ok (.getfield 19, 3) := by decide +kernel
theorem dX11_rayOf_23 : decode cX11_rayOf 23 = .ok (.iload_n 1, 1) := by decide +kernel
theorem dX11_rayOf_24 : decode cX11_rayOf 24 = .ok (.iaload, 1) := by decide +kernel
theorem dX11_rayOf_25 : decode cX11_rayOf 25 = .ok (.aload_n 0, 1) := by decide +kernel
theorem dX11_rayOf_26 : decode cX11_rayOf 26 = .ok (.getfield 68, 3) := by decide +kernel
theorem dX11_rayOf_29 : decode cX11_rayOf 29 = .ok (.iload_n 2, 1) := by decide +kernel
theorem dX11_rayOf_30 : decode cX11_rayOf 30 = .ok (.iaload, 1) := by decide +kernel
theorem dX11_rayOf_31 : decode cX11_rayOf 31 = .ok (.imul, 1) := by decide +kernel
theorem dX11_rayOf_32 : decode cX11_rayOf 32 = .ok (.if_icmp .eq 9, 3) := by decide +kernel
theorem dX11_rayOf_35 : decode cX11_rayOf 35 = .ok (.iinc 2 1, 3) := by decide +kernel
theorem dX11_rayOf_38 : decode cX11_rayOf 38 = .ok (.goto (-32), 3) := by decide +kernel
theorem dX11_rayOf_41 : decode cX11_rayOf 41 = .ok (.iload_n 2, 1) := by decide +kernel
theorem dX11_rayOf_42 : decode cX11_rayOf 42 = .ok (.ireturn, 1) := by decide +kernel
theorem dX11_ray_0 : decode cX11_ray 0 = .ok (.aload_n 0, 1) := by decide +kernel
theorem dX11_ray_1 : decode cX11_ray 1 = .ok (.invokevirtual 228, 3) := by decide +kernel
theorem dX11_ray_4 : decode cX11_ray 4 = .ok (.iload_n 1, 1) := by decide +kernel
theorem dX11_ray_5 : decode cX11_ray 5 = .ok (.iconst 0, 1) := by decide +kernel
theorem dX11_ray_6 : decode cX11_ray 6 = .ok (.aload_n 0, 1) := by decide +kernel
theorem dX11_ray_7 : decode cX11_ray 7 = .ok (.getfield 219, 3) := by decide +kernel
theorem dX11_ray_10 : decode cX11_ray 10 = .ok (.iconst 1, 1) := by decide +kernel
theorem dX11_ray_11 : decode cX11_ray 11 = .ok (.isub, 1) := by decide +kernel
theorem dX11_ray_12 : decode cX11_ray 12 = .ok (.invokestatic 89, 3) := by decide +kernel
theorem dX11_ray_15 : decode cX11_ray 15 = .ok (.ifCond .ne 5, 3) := by decide +kernel
theorem dX11_ray_18 : decode cX11_ray 18 = .ok (.iconst (-1), 1) := by decide +kernel
theorem dX11_ray_19 : decode cX11_ray 19 = .ok (.ireturn, 1) := by decide +kernel
theorem dX11_ray_20 : decode cX11_ray 20 = .ok (.iload_n 2, 1) := by decide +kernel
theorem dX11_ray_21 : decode cX11_ray 21 = .ok (.ifCond .ne 12, 3) := by decide +kernel
theorem dX11_ray_24 : decode cX11_ray 24 = .ok (.aload_n 0, 1) := by decide +kernel
theorem dX11_ray_25 : decode cX11_ray 25 = .ok (.getfield 68, 3) := by decide +kernel
theorem dX11_ray_28 : decode cX11_ray 28 = .ok (.iload_n 1, 1) := by decide +kernel
theorem dX11_ray_29 : decode cX11_ray 29 = .ok (.iaload, 1) := by decide +kernel
theorem dX11_ray_30 : decode cX11_ray 30 = .ok (.goto 32, 3) := by decide +kernel
theorem dX11_ray_33 : decode cX11_ray 33 = .ok (.iload_n 2, 1) := by decide +kernel
theorem dX11_ray_34 : decode cX11_ray 34 = .ok (.iconst 1, 1) := by decide +kernel
theorem dX11_ray_35 : decode cX11_ray 35 = .ok (.if_icmp .ne 12, 3) := by decide +kernel
theorem dX11_ray_38 : decode cX11_ray 38 = .ok (.aload_n 0, 1) := by decide +kernel
theorem dX11_ray_39 : decode cX11_ray 39 = .ok (.getfield 71, 3) := by decide +kernel
theorem dX11_ray_42 : decode cX11_ray 42 = .ok (.iload_n 1, 1) := by decide +kernel
theorem dX11_ray_43 : decode cX11_ray 43 = .ok (.iaload, 1) := by decide +kernel
theorem dX11_ray_44 : decode cX11_ray 44 = .ok (.goto 18, 3) := by decide +kernel
theorem dX11_ray_47 : decode cX11_ray 47 = .ok (.iload_n 2, 1) := by decide +kernel
theorem dX11_ray_48 : decode cX11_ray 48 = .ok (.iconst 2, 1) := by decide +kernel
theorem dX11_ray_49 : decode cX11_ray 49 = .ok (.if_icmp .ne 12, 3) := by decide +kernel
theorem dX11_ray_52 : decode cX11_ray 52 = .ok (.aload_n 0, 1) := by decide +kernel
theorem dX11_ray_53 : decode cX11_ray 53 = .ok (.getfield 74, 3) := by decide +kernel
theorem dX11_ray_56 : decode cX11_ray 56 = .ok (.iload_n 1, 1) := by decide +kernel
theorem dX11_ray_57 : decode cX11_ray 57 = .ok (.iaload, 1) := by decide +kernel
theorem dX11_ray_58 : decode cX11_ray 58 = .ok (.goto 4, 3) := by decide +kernel
theorem dX11_ray_61 : decode cX11_ray 61 = .ok (.iconst (-1), 1) := by decide +kernel
theorem dX11_ray_62 : decode cX11_ray 62 = .ok (.ireturn, 1) := by decide +kernel
theorem dX11_periodNow_0 : decode cX11_periodNow 0 = .ok (.iconst 1, 1) := by decide +kernel
theorem dX11_periodNow_1 : decode cX11_periodNow 1 = .ok (.istore_n 1, 1) := by decide +kernel
theorem dX11_periodNow_2 : decode cX11_periodNow 2 = .ok (.iconst 0, 1) := by decide +kernel
theorem dX11_periodNow_3 : decode cX11_periodNow 3 = .ok (.istore_n 2, 1) := by decide +kernel
theorem dX11_periodNow_4 : decode cX11_periodNow 4 = .ok (.iload_n 2, 1) := by decide +kernel
theorem dX11_periodNow_5 : decode cX11_periodNow 5 = .ok (.aload_n 0, 1) := by decide +kernel
theorem dX11_periodNow_6 : decode cX11_periodNow 6 = .ok (.getfield 86, 3) := by decide +kernel
theorem dX11_periodNow_9 : decode cX11_periodNow 9 = .ok (.if_icmp .ge 70, 3) := by decide +kernel
theorem dX11_periodNow_12 : decode cX11_periodNow 12 = .ok (.iconst 0, 1) := by decide +kernel
theorem dX11_periodNow_13 : decode cX11_periodNow 13 = .ok (.istore_n 3, 1) := by decide +kernel
theorem dX11_periodNow_14 : decode cX11_periodNow 14 = .ok (.iload_n 3, 1) := by decide +kernel
theorem dX11_periodNow_15 : decode cX11_periodNow 15 = .ok (.iload_n 2, 1) := by decide +kernel
theorem dX11_periodNow_16 : decode cX11_periodNow 16 = .ok (.if_icmp .ge 57, 3) := by decide +kernel
theorem dX11_periodNow_19 : decode cX11_periodNow 19 = .ok (.aload_n 0, 1) := by decide +kernel
theorem dX11_periodNow_20 : decode cX11_periodNow 20 = .ok (.iload_n 2, 1) := by decide +kernel
theorem dX11_periodNow_21 : decode cX11_periodNow 21 = .ok (.iload_n 3, 1) := by decide +kernel
theorem dX11_periodNow_22 : decode cX11_periodNow 22 = .ok (.invokevirtual 222, 3) := by decide +kernel
theorem dX11_periodNow_25 : decode cX11_periodNow 25 = .ok (.ifCond .ge 13, 3) := by decide +kernel
theorem dX11_periodNow_28 : decode cX11_periodNow 28 = .ok (.aload_n 0, 1) := by decide +kernel
theorem dX11_periodNow_29 : decode cX11_periodNow 29 = .ok (.iload_n 2, 1) := by decide +kernel
theorem dX11_periodNow_30 : decode cX11_periodNow 30 = .ok (.iload_n 3, 1) := by decide +kernel
theorem dX11_periodNow_31 : decode cX11_periodNow 31 = .ok (.invokevirtual 222, 3) := by decide +kernel
theorem dX11_periodNow_34 : decode cX11_periodNow 34 = .ok (.ineg, 1) := by decide +kernel
theorem dX11_periodNow_35 : decode cX11_periodNow 35 = .ok (.goto 9, 3) := by decide +kernel
theorem dX11_periodNow_38 : decode cX11_periodNow 38 = .ok (.aload_n 0, 1) := by decide +kernel
theorem dX11_periodNow_39 : decode cX11_periodNow 39 = .ok (.iload_n 2, 1) := by decide +kernel
theorem dX11_periodNow_40 : decode cX11_periodNow 40 = .ok (.iload_n 3, 1) := by decide +kernel
theorem dX11_periodNow_41 : decode cX11_periodNow 41 = .ok (.invokevirtual 222, 3) := by decide +kernel
theorem dX11_periodNow_44 : decode cX11_periodNow 44 = .ok (.istore 4, 2) := by decide +kernel
theorem dX11_periodNow_46 : decode cX11_periodNow 46 = .ok (.iload 4, 2) := by decide +kernel
theorem dX11_periodNow_48 : decode cX11_periodNow 48 = .ok (.ifCond .ne 7, 3) := by decide +kernel
theorem dX11_periodNow_51 : decode cX11_periodNow 51 = .ok (.iload_n 1, 1) := by decide +kernel
theorem dX11_periodNow_52 : decode cX11_periodNow 52 = .ok (.goto 14, 3) := by decide +kernel
theorem dX11_periodNow_55 : decode cX11_periodNow 55 = .ok (.iload_n 1, 1) := by decide +kernel
theorem dX11_periodNow_56 : decode cX11_periodNow 56 = .ok (.iload_n 1, 1) := by decide +kernel
theorem dX11_periodNow_57 : decode cX11_periodNow 57 = .ok (.iload 4, 2) := by decide +kernel
theorem dX11_periodNow_59 : decode cX11_periodNow 59 = .ok (.invokestatic 225, 3) := by decide +kernel
theorem dX11_periodNow_62 : decode cX11_periodNow 62 = .ok (.idiv, 1) := by decide +kernel
theorem dX11_periodNow_63 : decode cX11_periodNow 63 = .ok (.iload 4, 2) := by decide +kernel
theorem dX11_periodNow_65 : decode cX11_periodNow 65 = .ok (.imul, 1) := by decide +kernel
theorem dX11_periodNow_66 : decode cX11_periodNow 66 = .ok (.istore_n 1, 1) := by decide +kernel
theorem dX11_periodNow_67 : decode cX11_periodNow 67 = .ok (.iinc 3 1, 3) := by decide +kernel
theorem dX11_periodNow_70 : decode cX11_periodNow 70 = .ok (.goto (-56), 3) := by decide +kernel
theorem dX11_periodNow_73 : decode cX11_periodNow 73 = .ok (.iinc 2 1, 3) := by decide +kernel
theorem dX11_periodNow_76 : decode cX11_periodNow 76 = .ok (.goto (-72), 3) := by decide +kernel
theorem dX11_periodNow_79 : decode cX11_periodNow 79 = .ok (.iload_n 1, 1) := by decide +kernel
theorem dX11_periodNow_80 : decode cX11_periodNow 80 = .ok (.ireturn, 1) := by decide +kernel
theorem dX11_period_0 : decode cX11_period 0 = .ok (.aload_n 0, 1) := by decide +kernel
theorem dX11_period_1 : decode cX11_period 1 = .ok (.invokevirtual 231, 3) := by decide +kernel
theorem dX11_period_4 : decode cX11_period 4 = .ok (.ireturn, 1) := by decide +kernel
theorem dX11_unit_0 : decode cX11_unit 0 = .ok (.aload_n 0, 1) := by decide +kernel
theorem dX11_unit_1 : decode cX11_unit 1 = .ok (.invokevirtual 231, 3) := by decide +kernel
theorem dX11_unit_4 : decode cX11_unit 4 = .ok (.iconst 1, 1) := by decide +kernel
theorem dX11_unit_5 : decode cX11_unit 5 = .ok (.if_icmp .ne 7, 3) := by decide +kernel
theorem dX11_unit_8 : decode cX11_unit 8 = .ok (.iconst 1, 1) := by decide +kernel
theorem dX11_unit_9 : decode cX11_unit 9 = .ok (.goto 4, 3) := by decide +kernel
theorem dX11_unit_12 : decode cX11_unit 12 = .ok (.iconst 0, 1) := by decide +kernel
theorem dX11_unit_13 : decode cX11_unit 13 = .ok (.ireturn, 1) := by decide +kernel
theorem dX11_chambers_0 : decode cX11_chambers 0 = .ok (.aload_n 0, 1) := by decide +kernel
theorem dX11_chambers_1 : decode cX11_chambers 1 = .ok (.invokevirtual 228, 3) := by decide +kernel
theorem dX11_chambers_4 : decode cX11_chambers 4 = .ok (.aload_n 0, 1) := by decide +kernel
theorem dX11_chambers_5 : decode cX11_chambers 5 = .ok (.getfield 219, 3) := by decide +kernel
theorem dX11_chambers_8 : decode cX11_chambers 8 = .ok (.iconst 1, 1) := by decide +kernel
theorem dX11_chambers_9 : decode cX11_chambers 9 = .ok (.if_icmp .le 12, 3) := by decide +kernel
theorem dX11_chambers_12 : decode cX11_chambers 12 = .ok (.aload_n 0, 1) := by decide +kernel
theorem dX11_chambers_13 : decode cX11_chambers 13 = .ok (.getfield 219, 3) := by decide +kernel
theorem dX11_chambers_16 : decode cX11_chambers 16 = .ok (.iconst 1, 1) := by decide +kernel
theorem dX11_chambers_17 : decode cX11_chambers 17 = .ok (.isub, 1) := by decide +kernel
theorem dX11_chambers_18 : decode cX11_chambers 18 = .ok (.goto 4, 3) := by decide +kernel
theorem dX11_chambers_21 : decode cX11_chambers 21 = .ok (.iconst 0, 1) := by decide +kernel
theorem dX11_chambers_22 : decode cX11_chambers 22 = .ok (.ireturn, 1) := by decide +kernel
theorem dX11_areFormulas_0 : decode cX11_areFormulas 0 = .ok (.aload_n 0, 1) := by decide +kernel
theorem dX11_areFormulas_1 : decode cX11_areFormulas 1 = .ok (.invokevirtual 234, 3) := by decide +kernel
theorem dX11_areFormulas_4 : decode cX11_areFormulas 4 = .ok (.ifCond .le 16, 3) := by decide +kernel
theorem dX11_areFormulas_7 : decode cX11_areFormulas 7 = .ok (.aload_n 0, 1) := by decide +kernel
theorem dX11_areFormulas_8 : decode cX11_areFormulas 8 = .ok (.invokevirtual 231, 3) := by decide +kernel
theorem dX11_areFormulas_11 : decode cX11_areFormulas 11 = .ok (.bipush 6, 2) := by decide +kernel
theorem dX11_areFormulas_13 : decode cX11_areFormulas 13 = .ok (.if_icmp .gt 7, 3) := by decide +kernel
theorem dX11_areFormulas_16 : decode cX11_areFormulas 16 = .ok (.iconst 1, 1) := by decide +kernel
theorem dX11_areFormulas_17 : decode cX11_areFormulas 17 = .ok (.goto 4, 3) := by decide +kernel
theorem dX11_areFormulas_20 : decode cX11_areFormulas 20 = .ok (.iconst 0, 1) := by decide +kernel
theorem dX11_areFormulas_21 : decode cX11_areFormulas 21 = .ok (.ireturn, 1) := by decide +kernel
theorem dX11_looks_0 : decode cX11_looks 0 = .ok (.aload_n 0, 1) := by decide +kernel
theorem dX11_looks_1 : decode cX11_looks 1 = .ok (.aload_n 0, 1) := by decide +kernel
theorem dX11_looks_2 : decode cX11_looks 2 = .ok (.getfield 68, 3) := by decide +kernel
theorem dX11_looks_5 : decode cX11_looks 5 = .ok (.iload_n 1, 1) := by decide +kernel
theorem dX11_looks_6 : decode cX11_looks 6 = .ok (.iaload, 1) := by decide +kernel
theorem dX11_looks_7 : decode cX11_looks 7 = .ok (.putfield 237, 3) := by decide +kernel
theorem dX11_looks_10 : decode cX11_looks 10 = .ok (.aload_n 0, 1) := by decide +kernel
theorem dX11_looks_11 : decode cX11_looks 11 = .ok (.aload_n 0, 1) := by decide +kernel
theorem dX11_looks_12 : decode cX11_looks 12 = .ok (.getfield 71, 3) := by decide +kernel
theorem dX11_looks_15 : decode cX11_looks 15 = .ok (.iload_n 1, 1) := by decide +kernel
theorem dX11_looks_16 : decode cX11_looks 16 = .ok (.iaload, 1) := by decide +kernel
theorem dX11_looks_17 : decode cX11_looks 17 = .ok (.putfield 240, 3) := by decide +kernel
theorem dX11_looks_20 : decode cX11_looks 20 = .ok (.aload_n 0, 1) := by decide +kernel
theorem dX11_looks_21 : decode cX11_looks 21 = .ok (.aload_n 0, 1) := by decide +kernel
theorem dX11_looks_22 : decode cX11_looks 22 = .ok (.getfield 68, 3) := by decide +kernel
theorem dX11_looks_25 : decode cX11_looks 25 = .ok (.iload_n 1, 1) := by decide +kernel
theorem dX11_looks_26 : decode cX11_looks 26 = .ok (.iconst 1, 1) := by decide +kernel
theorem dX11_looks_27 : decode cX11_looks 27 = .ok (.iadd, 1) := by decide +kernel
theorem dX11_looks_28 : decode cX11_looks 28 = .ok (.iaload, 1) := by decide +kernel
theorem dX11_looks_29 : decode cX11_looks 29 = .ok (.putfield 243, 3) := by decide +kernel
theorem dX11_looks_32 : decode cX11_looks 32 = .ok (.aload_n 0, 1) := by decide +kernel
theorem dX11_looks_33 : decode cX11_looks 33 = .ok (.aload_n 0, 1) := by decide +kernel
theorem dX11_looks_34 : decode cX11_looks 34 = .ok (.getfield 71, 3) := by decide +kernel
theorem dX11_looks_37 : decode cX11_looks 37 = .ok (.iload_n 1, 1) := by decide +kernel
theorem dX11_looks_38 : decode cX11_looks 38 = .ok (.iconst 1, 1) := by decide +kernel
theorem dX11_looks_39 : decode cX11_looks 39 = .ok (.iadd, 1) := by decide +kernel
theorem dX11_looks_40 : decode cX11_looks 40 = .ok (.iaload, 1) := by decide +kernel
theorem dX11_looks_41 : decode cX11_looks 41 = .ok (.putfield 246, 3) := by decide +kernel
theorem dX11_looks_44 : decode cX11_looks 44 = .ok (.aload_n 0, 1) := by decide +kernel
theorem dX11_looks_45 : decode cX11_looks 45 = .ok (.iload_n 2, 1) := by decide +kernel
theorem dX11_looks_46 : decode cX11_looks 46 = .ok (.aload_n 0, 1) := by decide +kernel
theorem dX11_looks_47 : decode cX11_looks 47 = .ok (.getfield 246, 3) := by decide +kernel
theorem dX11_looks_50 : decode cX11_looks 50 = .ok (.imul, 1) := by decide +kernel
theorem dX11_looks_51 : decode cX11_looks 51 = .ok (.iload_n 3, 1) := by decide +kernel
theorem dX11_looks_52 : decode cX11_looks 52 = .ok (.aload_n 0, 1) := by decide +kernel
theorem dX11_looks_53 : decode cX11_looks 53 = .ok (.getfield 243, 3) := by decide +kernel
theorem dX11_looks_56 : decode cX11_looks 56 = .ok (.imul, 1) := by decide +kernel
theorem dX11_looks_57 : decode cX11_looks 57 = .ok (.isub, 1) := by decide +kernel
theorem dX11_looks_58 : decode cX11_looks 58 = .ok (.putfield 249, 3) := by decide +kernel
theorem dX11_looks_61 : decode cX11_looks 61 = .ok (.aload_n 0, 1) := by decide +kernel
theorem dX11_looks_62 : decode cX11_looks 62 = .ok (.iload_n 3, 1) := by decide +kernel
theorem dX11_looks_63 : decode cX11_looks 63 = .ok (.aload_n 0, 1) := by decide +kernel
theorem dX11_looks_64 : decode cX11_looks 64 = .ok (.getfield 237, 3) := by decide +kernel
theorem dX11_looks_67 : decode cX11_looks 67 = .ok (.imul, 1) := by decide +kernel
theorem dX11_looks_68 : decode cX11_looks 68 = .ok (.iload_n 2, 1) := by decide +kernel
theorem dX11_looks_69 : decode cX11_looks 69 = .ok (.aload_n 0, 1) := by decide +kernel
theorem dX11_looks_70 : decode cX11_looks 70 = .ok (.getfield 240, 3) := by decide +kernel
theorem dX11_looks_73 : decode cX11_looks 73 = .ok (.imul, 1) := by decide +kernel
theorem dX11_looks_74 : decode cX11_looks 74 = .ok (.isub, 1) := by decide +kernel
theorem dX11_looks_75 : decode cX11_looks 75 = .ok (.putfield 252, 3) := by decide +kernel
theorem dX11_looks_78 : decode cX11_looks 78 = .ok (.aload_n 0, 1) := by decide +kernel
theorem dX11_looks_79 : decode cX11_looks 79 = .ok (.aload_n 0, 1) := by decide +kernel
theorem dX11_looks_80 : decode cX11_looks 80 = .ok (.getfield 237, 3) := by decide +kernel
theorem dX11_looks_83 : decode cX11_looks 83 = .ok (.aload_n 0, 1) := by decide +kernel
theorem dX11_looks_84 : decode cX11_looks 84 = .ok (.getfield 246, 3) := by decide +kernel
theorem dX11_looks_87 : decode cX11_looks 87 = .ok (.imul, 1) := by decide +kernel
theorem dX11_looks_88 : decode cX11_looks 88 = .ok (.aload_n 0, 1) := by decide +kernel
theorem dX11_looks_89 : decode cX11_looks 89 = .ok (.getfield 240, 3) := by decide +kernel
theorem dX11_looks_92 : decode cX11_looks 92 = .ok (.aload_n 0, 1) := by decide +kernel
theorem dX11_looks_93 : decode cX11_looks 93 = .ok (.getfield 243, 3) := by decide +kernel
theorem dX11_looks_96 : decode cX11_looks 96 = .ok (.imul, 1) := by decide +kernel
theorem dX11_looks_97 : decode cX11_looks 97 = .ok (.isub, 1) := by decide +kernel
theorem dX11_looks_98 : decode cX11_looks 98 = .ok (.putfield 255, 3) := by decide +kernel
theorem dX11_looks_101 : decode cX11_looks 101 = .ok (.return_, 1) := by decide +kernel
theorem dX11_floor_0 : decode cX11_floor 0 = .ok (.iload_n 0, 1) := by decide +kernel
theorem dX11_floor_1 : decode cX11_floor 1 = .ok (.ifCond .lt 9, 3) := by decide +kernel
theorem dX11_floor_4 : decode cX11_floor 4 = .ok (.iload_n 0, 1) := by decide +kernel
theorem dX11_floor_5 : decode cX11_floor 5 = .ok (.iload_n 1, 1) := by decide +kernel
theorem dX11_floor_6 : decode cX11_floor 6 = .ok (.idiv, 1) := by decide +kernel
theorem dX11_floor_7 : decode cX11_floor 7 = .ok (.goto 11, 3) := by decide +kernel
theorem dX11_floor_10 : decode cX11_floor 10 = .ok (.iload_n 1, 1) := by decide +kernel
theorem dX11_floor_11 : decode cX11_floor 11 = .ok (.iconst 1, 1) := by decide +kernel
theorem dX11_floor_12 : decode cX11_floor 12 = .ok (.isub, 1) := by decide +kernel
theorem dX11_floor_13 : decode cX11_floor 13 = .ok (.iload_n 0, 1) := by decide +kernel
theorem dX11_floor_14 : decode cX11_floor 14 = .ok (.isub, 1) := by decide +kernel
theorem dX11_floor_15 : decode cX11_floor 15 = .ok (.iload_n 1, 1) := by decide +kernel
theorem dX11_floor_16 : decode cX11_floor 16 = .ok (.idiv, 1) := by decide +kernel
theorem dX11_floor_17 : decode cX11_floor 17 = .ok (.ineg, 1) := by decide +kernel
theorem dX11_floor_18 : decode cX11_floor 18 = .ok (.ireturn, 1) := by decide +kernel
theorem dX11_goesHome_0 : decode cX11_goesHome 0 = .ok (.aload_n 0, 1) := by decide +kernel
theorem dX11_goesHome_1 : decode cX11_goesHome 1 = .ok (.iload_n 1, 1) := by decide +kernel
theorem dX11_goesHome_2 : decode cX11_goesHome 2 = .ok (.iload_n 2, 1) := by decide +kernel
theorem dX11_goesHome_3 : decode cX11_goesHome 3 = .ok (.iload_n 3, 1) := by decide +kernel
theorem dX11_goesHome_4 : decode cX11_goesHome 4 = .ok (.invokevirtual 258, 3) := by decide +kernel
theorem dX11_goesHome_7 : decode cX11_goesHome 7 = .ok (.aload_n 0, 1) := by decide +kernel
theorem dX11_goesHome_8 : decode cX11_goesHome 8 = .ok (.aload_n 0, 1) := by decide +kernel
theorem dX11_goesHome_9 : decode cX11_goesHome 9 = .ok (.getfield 249, 3) := by decide +kernel
theorem dX11_goesHome_12 : decode cX11_goesHome 12 = .ok (.aload_n 0, 1) := by decide +kernel
theorem dX11_goesHome_13 : decode cX11_goesHome 13 = .ok (.getfield 262, 3) := by decide +kernel
theorem dX11_goesHome_16 : decode cX11_goesHome 16 = .ok (.aload_n 0, 1) := by decide +kernel
theorem dX11_goesHome_17 : decode cX11_goesHome 17 = .ok (.getfield 255, 3) := by decide +kernel
theorem dX11_goesHome_20 : decode cX11_goesHome 20 = .ok (.imul, 1) := by decide +kernel
theorem dX11_goesHome_21 : decode cX11_goesHome 21 = .ok (.invokestatic 265, 3) := by decide +kernel
theorem dX11_goesHome_24 : decode cX11_goesHome 24 = .ok (.putfield 268, 3) := by decide +kernel
theorem dX11_goesHome_27 : decode cX11_goesHome 27 = .ok (.aload_n 0, 1) := by decide +kernel
theorem dX11_goesHome_28 : decode cX11_goesHome 28 = .ok (.aload_n 0, 1) := by decide +kernel
theorem dX11_goesHome_29 : decode cX11_goesHome 29 = .ok (.getfield 252, 3) := by decide +kernel
theorem dX11_goesHome_32 : decode cX11_goesHome 32 = .ok (.aload_n 0, 1) := by decide +kernel
theorem dX11_goesHome_33 : decode cX11_goesHome 33 = .ok (.getfield 262, 3) := by decide +kernel
theorem dX11_goesHome_36 : decode cX11_goesHome 36 = .ok (.aload_n 0, 1) := by decide +kernel
theorem dX11_goesHome_37 : decode cX11_goesHome 37 = .ok (.getfield 255, 3) := by decide +kernel
theorem dX11_goesHome_40 : decode cX11_goesHome 40 = .ok (.imul, 1) := by decide +kernel
theorem dX11_goesHome_41 : decode cX11_goesHome 41 = .ok (.invokestatic 265, 3) := by decide +kernel
theorem dX11_goesHome_44 : decode cX11_goesHome 44 = .ok (.putfield 271, 3) := by decide +kernel
theorem dX11_goesHome_47 : decode cX11_goesHome 47 = .ok (.aload_n 0, 1) := by decide +kernel
theorem dX11_goesHome_48 : decode cX11_goesHome 48 = .ok (.iload_n 2, 1) := by decide +kernel
theorem dX11_goesHome_49 : decode cX11_goesHome 49 = .ok (.aload_n 0, 1) := by decide +kernel
theorem dX11_goesHome_50 : decode cX11_goesHome 50 = .ok (.getfield 262, 3) := by decide +kernel
theorem dX11_goesHome_53 : decode cX11_goesHome 53 = .ok (.aload_n 0, 1) := by decide +kernel
theorem dX11_goesHome_54 : decode cX11_goesHome 54 = .ok (.getfield 268, 3) := by decide +kernel
theorem dX11_goesHome_57 : decode cX11_goesHome 57 = .ok (.aload_n 0, 1) := by decide +kernel
theorem dX11_goesHome_58 : decode cX11_goesHome 58 = .ok (.getfield 237, 3) := by decide +kernel
theorem dX11_goesHome_61 : decode cX11_goesHome 61 = .ok (.imul, 1) := by decide +kernel
theorem dX11_goesHome_62 : decode cX11_goesHome 62 = .ok (.aload_n 0, 1) := by decide +kernel
theorem dX11_goesHome_63 : decode cX11_goesHome 63 = .ok (.getfield 271, 3) := by decide +kernel
theorem dX11_goesHome_66 : decode cX11_goesHome 66 = .ok (.aload_n 0, 1) := by decide +kernel
theorem dX11_goesHome_67 : decode cX11_goesHome 67 = .ok (.getfield 243, 3) := by decide +kernel
theorem dX11_goesHome_70 : decode cX11_goesHome 70 = .ok (.imul, 1) := by decide +kernel
theorem dX11_goesHome_71 : decode cX11_goesHome 71 = .ok (.iadd, 1) := by decide +kernel
theorem dX11_goesHome_72 : decode cX11_goesHome 72 = .ok (.imul, 1) := by decide +kernel
theorem dX11_goesHome_73 : decode cX11_goesHome 73 = .ok (.isub, 1) := by decide +kernel
theorem dX11_goesHome_74 : decode cX11_goesHome 74 = .ok (.putfield 274, 3) := by decide +kernel
theorem dX11_goesHome_77 : decode cX11_goesHome 77 = .ok (.aload_n 0, 1) := by decide +kernel
theorem dX11_goesHome_78 : decode cX11_goesHome 78 = .ok (.iload_n 3, 1) := by decide +kernel
theorem dX11_goesHome_79 : decode cX11_goesHome 79 = .ok (.aload_n 0, 1) := by decide +kernel
theorem dX11_goesHome_80 : decode cX11_goesHome 80 = .ok (.getfield 262, 3) := by decide +kernel
theorem dX11_goesHome_83 : decode cX11_goesHome 83 = .ok (.aload_n 0, 1) := by decide +kernel
theorem dX11_goesHome_84 : decode cX11_goesHome 84 = .ok (.getfield 268, 3) := by decide +kernel
theorem dX11_goesHome_87 : decode cX11_goesHome 87 = .ok (.aload_n 0, 1) := by decide +kernel
theorem dX11_goesHome_88 : decode cX11_goesHome 88 = .ok (.getfield 240, 3) := by decide +kernel
theorem dX11_goesHome_91 : decode cX11_goesHome 91 = .ok (.imul, 1) := by decide +kernel
theorem dX11_goesHome_92 : decode cX11_goesHome 92 = .ok (.aload_n 0, 1) := by decide +kernel
theorem dX11_goesHome_93 : decode cX11_goesHome 93 = .ok (.getfield 271, 3) := by decide +kernel
theorem dX11_goesHome_96 : decode cX11_goesHome 96 = .ok (.aload_n 0, 1) := by decide +kernel
theorem dX11_goesHome_97 : decode cX11_goesHome 97 = .ok (.getfield 246, 3) := by decide +kernel
theorem dX11_goesHome_100 : decode cX11_goesHome 100 = .ok (.imul, 1) := by decide +kernel
theorem dX11_goesHome_101 : decode cX11_goesHome 101 = .ok (.iadd, 1) := by decide +kernel
theorem dX11_goesHome_102 : decode cX11_goesHome 102 = .ok (.imul, 1) := by decide +kernel
theorem dX11_goesHome_103 : decode cX11_goesHome 103 = .ok (.isub, 1) := by decide +kernel
theorem dX11_goesHome_104 : decode cX11_goesHome 104 = .ok (.putfield 277, 3) := by decide +kernel
theorem dX11_goesHome_107 : decode cX11_goesHome 107 = .ok (.return_, 1) := by decide +kernel
theorem dX11_chamberOf_0 : decode cX11_chamberOf 0 = .ok (.iload_n 1, 1) := by decide +kernel
theorem dX11_chamberOf_1 : decode cX11_chamberOf 1 = .ok (.bipush (-60), 2) := by decide +kernel
theorem dX11_chamberOf_3 : decode cX11_chamberOf 3 = .ok (.bipush 60, 2) := by decide +kernel
theorem dX11_chamberOf_5 : decode cX11_chamberOf 5 = .ok (.invokestatic 89, 3) := by decide +kernel
theorem dX11_chamberOf_8 : decode cX11_chamberOf 8 = .ok (.ifCond .eq 14, 3) := by decide +kernel
theorem dX11_chamberOf_11 : decode cX11_chamberOf 11 = .ok (.iload_n 2, 1) := by decide +kernel
theorem dX11_chamberOf_12 : decode cX11_chamberOf 12 = .ok (.bipush (-60), 2) := by decide +kernel
theorem dX11_chamberOf_14 : decode cX11_chamberOf 14 = .ok (.bipush 60, 2) := by decide +kernel
theorem dX11_chamberOf_16 : decode cX11_chamberOf 16 = .ok (.invokestatic 89, 3) := by decide +kernel
theorem dX11_chamberOf_19 : decode cX11_chamberOf 19 = .ok (.ifCond .ne 5, 3) := by decide +kernel
theorem dX11_chamberOf_22 : decode cX11_chamberOf 22 = .ok (.iconst (-1), 1) := by decide +kernel
theorem dX11_chamberOf_23 : decode cX11_chamberOf 23 = .ok (.ireturn, 1) := by decide +kernel
theorem dX11_chamberOf_24 : decode cX11_chamberOf 24 = .ok (.iconst 0, 1) := by decide +kernel
theorem dX11_chamberOf_25 : decode cX11_chamberOf 25 = .ok (.istore_n 3, 1) := by decide +kernel
theorem dX11_chamberOf_26 : decode cX11_chamberOf 26 = .ok (.iload_n 3, 1) := by decide +kernel
theorem dX11_chamberOf_27 : decode cX11_chamberOf 27 = .ok (.aload_n 0, 1) := by decide +kernel
theorem dX11_chamberOf_28 : decode cX11_chamberOf 28 = .ok (.invokevirtual 234, 3) := by decide +kernel
theorem dX11_chamberOf_31 : decode cX11_chamberOf 31 = .ok (.if_icmp .ge 32, 3) := by decide +kernel
theorem dX11_chamberOf_34 : decode cX11_chamberOf 34 = .ok (.aload_n 0, 1) := by decide +kernel
theorem dX11_chamberOf_35 : decode cX11_chamberOf 35 = .ok (.iload_n 3, 1) := by decide +kernel
theorem dX11_chamberOf_36 : decode cX11_chamberOf 36 = .ok (.iload_n 1, 1) := by decide +kernel
theorem dX11_chamberOf_37 : decode cX11_chamberOf 37 = .ok (.iload_n 2, 1) := by decide +kernel
theorem dX11_chamberOf_38 : decode cX11_chamberOf 38 = .ok (.invokevirtual 258, 3) := by decide +kernel
theorem dX11_chamberOf_41 : decode cX11_chamberOf 41 = .ok (.aload_n 0, 1) := by decide +kernel
theorem dX11_chamberOf_42 : decode cX11_chamberOf 42 = .ok (.getfield 249, 3) := by decide +kernel
theorem dX11_chamberOf_45 : decode cX11_chamberOf 45 = .ok (.ifCond .lt 12, 3) := by decide +kernel
theorem dX11_chamberOf_48 : decode cX11_chamberOf 48 = .ok (.aload_n 0, 1) := by decide +kernel
theorem dX11_chamberOf_49 : decode cX11_chamberOf 49 = .ok (.getfield 252, 3) := by decide +kernel
theorem dX11_chamberOf_52 : decode cX11_chamberOf 52 = .ok (.ifCond .lt 5, 3) := by decide +kernel
theorem dX11_chamberOf_55 : decode cX11_chamberOf 55 = .ok (.iload_n 3, 1) := by decide +kernel
theorem dX11_chamberOf_56 : decode cX11_chamberOf 56 = .ok (.ireturn, 1) := by decide +kernel
theorem dX11_chamberOf_57 : decode cX11_chamberOf 57 = .ok (.iinc 3 1, 3) := by decide +kernel
theorem dX11_chamberOf_60 : decode cX11_chamberOf 60 = .ok (.goto (-34), 3) := by decide +kernel
theorem dX11_chamberOf_63 : decode cX11_chamberOf 63 = .ok (.bipush (-3), 2) := by decide +kernel
theorem dX11_chamberOf_65 : decode cX11_chamberOf 65 = .ok (.ireturn, 1) := by decide +kernel
theorem dX11_isAsked_0 : decode cX11_isAsked 0 = .ok (.aload_n 0, 1) := by decide +kernel
theorem dX11_isAsked_1 : decode cX11_isAsked 1 = .ok (.invokevirtual 280, 3) := by decide +kernel
theorem dX11_isAsked_4 : decode cX11_isAsked 4 = .ok (.ifCond .eq 43, 3) := by decide +kernel
theorem dX11_isAsked_7 : decode cX11_isAsked 7 = .ok (.iload_n 1, 1) := by decide +kernel
theorem dX11_isAsked_8 : decode cX11_isAsked 8 = .ok (.iconst 0, 1) := by decide +kernel
theorem dX11_isAsked_9 : decode cX11_isAsked 9 = .ok (.aload_n 0, 1) := by decide +kernel
theorem dX11_isAsked_10 : decode cX11_isAsked 10 = .ok (.invokevirtual 234, 3) := by decide +kernel
theorem dX11_isAsked_13 : decode cX11_isAsked 13 = .ok (.iconst 1, 1) := by decide +kernel
theorem dX11_isAsked_14 : decode cX11_isAsked 14 = .ok (.isub, 1) := by decide +kernel
theorem dX11_isAsked_15 : decode cX11_isAsked 15 = .ok (.invokestatic 89, 3) := by decide +kernel
theorem dX11_isAsked_18 : decode cX11_isAsked 18 = .ok (.ifCond .eq 29, 3) := by decide +kernel
theorem dX11_isAsked_21 : decode cX11_isAsked 21 = .ok (.iload_n 2, 1) := by decide +kernel
theorem dX11_isAsked_22 : decode cX11_isAsked 22 = .ok (.bipush (-60), 2) := by decide +kernel
theorem dX11_isAsked_24 : decode cX11_isAsked 24 = .ok (.bipush 60, 2) := by decide +kernel
theorem dX11_isAsked_26 : decode cX11_isAsked 26 = .ok (.invokestatic 89, 3) := by decide +kernel
theorem dX11_isAsked_29 : decode cX11_isAsked 29 = .ok (.ifCond .eq 18, 3) := by decide +kernel
theorem dX11_isAsked_32 : decode cX11_isAsked 32 = .ok (.iload_n 3, 1) := by decide +kernel
theorem dX11_isAsked_33 : decode cX11_isAsked 33 = .ok (.bipush (-60), 2) := by decide +kernel
theorem dX11_isAsked_35 : decode cX11_isAsked 35 = .ok (.bipush 60, 2) := by decide +kernel
theorem dX11_isAsked_37 : decode cX11_isAsked 37 = .ok (.invokestatic 89, 3) := by decide +kernel
theorem dX11_isAsked_40 : decode cX11_isAsked 40 = .ok (.ifCond .eq 7, 3) := by decide +kernel
theorem dX11_isAsked_43 : decode cX11_isAsked 43 = .ok (.iconst 1, 1) := by decide +kernel
theorem dX11_isAsked_44 : decode cX11_isAsked 44 = .ok (.goto 4, 3) := by decide +kernel
theorem dX11_isAsked_47 : decode cX11_isAsked 47 = .ok (.iconst 0, 1) := by decide +kernel
theorem dX11_isAsked_48 : decode cX11_isAsked 48 = .ok (.ireturn, 1) := by decide +kernel
theorem dX11_home_0 : decode cX11_home 0 = .ok (.aload_n 0, 1) := by decide +kernel
theorem dX11_home_1 : decode cX11_home 1 = .ok (.iload_n 1, 1) := by decide +kernel
theorem dX11_home_2 : decode cX11_home 2 = .ok (.iload_n 2, 1) := by decide +kernel
theorem dX11_home_3 : decode cX11_home 3 = .ok (.iload_n 3, 1) := by decide +kernel
theorem dX11_home_4 : decode cX11_home 4 = .ok (.invokevirtual 284, 3) := by decide +kernel
theorem dX11_home_7 : decode cX11_home 7 = .ok (.ifCond .eq 13, 3) := by decide +kernel
theorem dX11_home_10 : decode cX11_home 10 = .ok (.iload 4, 2) := by decide +kernel
theorem dX11_home_12 : decode cX11_home 12 = .ok (.iconst 0, 1) := by decide +kernel
theorem dX11_home_13 : decode cX11_home 13 = .ok (.iconst 3, 1) := by decide +kernel
theorem dX11_home_14 : decode cX11_home 14 = .ok (.invokestatic 89, 3) := by decide +kernel
theorem dX11_home_17 : decode cX11_home 17 = .ok (.ifCond .ne 5, 3) := by decide +kernel
theorem dX11_home_20 : decode cX11_home 20 = .ok (.iconst (-1), 1) := by decide +kernel
theorem dX11_home_21 : decode cX11_home 21 = .ok (.ireturn, 1) := by decide +kernel
theorem dX11_home_22 : decode cX11_home 22 = .ok (.aload_n 0, 1) := by decide +kernel
theorem dX11_home_23 : decode cX11_home 23 = .ok (.aload_n 0, 1) := by decide +kernel
theorem dX11_home_24 : decode cX11_home 24 = .ok (.invokevirtual 231, 3) := by decide +kernel
theorem dX11_home_27 : decode cX11_home 27 = .ok (.putfield 262, 3) := by decide +kernel
theorem dX11_home_30 : decode cX11_home 30 = .ok (.aload_n 0, 1) := by decide +kernel
theorem dX11_home_31 : decode cX11_home 31 = .ok (.iload_n 1, 1) := by decide +kernel
theorem dX11_home_32 : decode cX11_home 32 = .ok (.iload_n 2, 1) := by decide +kernel
theorem dX11_home_33 : decode cX11_home 33 = .ok (.iload_n 3, 1) := by decide +kernel
theorem dX11_home_34 : decode cX11_home 34 = .ok (.invokevirtual 287, 3) := by decide +kernel
theorem dX11_home_37 : decode cX11_home 37 = .ok (.iload 4, 2) := by decide +kernel
theorem dX11_home_39 : decode cX11_home 39 = .ok (.ifCond .ne 10, 3) := by decide +kernel
theorem dX11_home_42 : decode cX11_home 42 = .ok (.aload_n 0, 1) := by decide +kernel
theorem dX11_home_43 : decode cX11_home 43 = .ok (.getfield 274, 3) := by decide +kernel
theorem dX11_home_46 : decode cX11_home 46 = .ok (.goto 41, 3) := by decide +kernel
theorem dX11_home_49 : decode cX11_home 49 = .ok (.iload 4, 2) := by decide +kernel
theorem dX11_home_51 : decode cX11_home 51 = .ok (.iconst 1, 1) := by decide +kernel
theorem dX11_home_52 : decode cX11_home 52 = .ok (.if_icmp .ne 10, 3) := by decide +kernel
theorem dX11_home_55 : decode cX11_home 55 = .ok (.aload_n 0, 1) := by decide +kernel
theorem dX11_home_56 : decode cX11_home 56 = .ok (.getfield 277, 3) := by decide +kernel
theorem dX11_home_59 : decode cX11_home 59 = .ok (.goto 28, 3) := by decide +kernel
theorem dX11_home_62 : decode cX11_home 62 = .ok (.iload 4, 2) := by decide +kernel
theorem dX11_home_64 : decode cX11_home 64 = .ok (.iconst 2, 1) := by decide +kernel
theorem dX11_home_65 : decode cX11_home 65 = .ok (.if_icmp .ne 14, 3) := by decide +kernel
theorem dX11_home_68 : decode cX11_home 68 = .ok (.sipush 1000, 3) := by decide +kernel
theorem dX11_home_71 : decode cX11_home 71 = .ok (.aload_n 0, 1) := by decide +kernel
theorem dX11_home_72 : decode cX11_home 72 = .ok (.getfield 268, 3) := by decide +kernel
theorem dX11_home_75 : decode cX11_home 75 = .ok (.iadd, 1) := by decide +kernel
theorem dX11_home_76 : decode cX11_home 76 = .ok (.goto 11, 3) := by decide +kernel
theorem dX11_home_79 : decode cX11_home 79 = .ok (.sipush 1000, 3) := by decide +kernel
theorem dX11_home_82 : decode cX11_home 82 = .ok (.aload_n 0, 1) := by decide +kernel
theorem dX11_home_83 : decode cX11_home 83 = .ok (.getfield 271, 3) := by decide +kernel
theorem dX11_home_86 : decode cX11_home 86 = .ok (.iadd, 1) := by decide +kernel
theorem dX11_home_87 : decode cX11_home 87 = .ok (.ireturn, 1) := by decide +kernel
theorem dX11_choose_0 : decode cX11_choose 0 = .ok (.lconst 1, 1) := by decide +kernel
theorem dX11_choose_1 : decode cX11_choose 1 = .ok (.lstore_n 2, 1) := by decide +kernel
theorem dX11_choose_2 : decode cX11_choose 2 = .ok (.iconst 0, 1) := by decide +kernel
theorem dX11_choose_3 : decode cX11_choose 3 = .ok (.istore 4, 2) := by decide +kernel
theorem dX11_choose_5 : decode cX11_choose 5 = .ok (.iload 4, 2) := by decide +kernel
theorem dX11_choose_7 : decode cX11_choose 7 = .ok (.iload_n 1, 1) := by decide +kernel
theorem dX11_choose_8 : decode cX11_choose 8 = .ok (.if_icmp .ge 23, 3) := by decide +kernel
theorem dX11_choose_11 : decode cX11_choose 11 = .ok (.lload_n 2, 1) := by decide +kernel
theorem dX11_choose_12 : decode cX11_choose 12 = .ok (.iload_n 0, 1) := by decide +kernel
theorem dX11_choose_13 : decode cX11_choose 13 = .ok (.iload 4, 2) := by decide +kernel
theorem dX11_choose_15 : decode cX11_choose 15 = .ok (.isub, 1) := by decide +kernel
theorem dX11_choose_16 : decode cX11_choose 16 = .ok (.i2l, 1) := by decide +kernel
theorem dX11_choose_17 : decode cX11_choose 17 = .ok (.lmul, 1) := by decide +kernel
theorem dX11_choose_18 : decode cX11_choose 18 = .ok (.iload 4, 2) := by decide +kernel
theorem dX11_choose_20 : decode cX11_choose 20 = .ok (.iconst 1, 1) := by decide +kernel
theorem dX11_choose_21 : decode cX11_choose 21 = .ok (.iadd, 1) := by decide +kernel
theorem dX11_choose_22 : decode cX11_choose 22 = .ok (.i2l, 1) := by decide +kernel
theorem dX11_choose_23 : decode cX11_choose 23 = .ok (.ldiv, 1) := by decide +kernel
theorem dX11_choose_24 : decode cX11_choose 24 = .ok (.lstore_n 2, 1) := by decide +kernel
theorem dX11_choose_25 : decode cX11_choose 25 = .ok (.iinc 4 1, 3) := by decide +kernel
theorem dX11_choose_28 : decode cX11_choose 28 = .ok (.goto (-23), 3) := by decide +kernel
theorem dX11_choose_31 : decode cX11_choose 31 = .ok (.lload_n 2, 1) := by decide +kernel
theorem dX11_choose_32 : decode cX11_choose 32 = .ok (.lreturn, 1) := by decide +kernel
theorem dX11_differenceAt_0 : decode cX11_differenceAt 0 = .ok (.lconst 0, 1) := by decide +kernel
theorem dX11_differenceAt_1 : decode cX11_differenceAt 1 = .ok (.lstore_n 3, 1) := by decide +kernel
theorem dX11_differenceAt_2 : decode cX11_differenceAt 2 = .ok (.iconst 0, 1) := by decide +kernel
theorem dX11_differenceAt_3 : decode cX11_differenceAt 3 = .ok (.istore 5, 2) := by decide +kernel
theorem dX11_differenceAt_5 : decode cX11_differenceAt 5 = .ok (.iload 5, 2) := by decide +kernel
theorem dX11_differenceAt_7 : decode cX11_differenceAt 7 = .ok (.iload_n 1, 1) := by decide +kernel
theorem dX11_differenceAt_8 : decode cX11_differenceAt 8 = .ok (.if_icmp .gt 119, 3) := by decide +kernel
theorem dX11_differenceAt_11 : decode cX11_differenceAt 11 = .ok (.iconst 0, 1) := by decide +kernel
theorem dX11_differenceAt_12 : decode cX11_differenceAt 12 = .ok (.istore 6, 2) := by decide +kernel
theorem dX11_differenceAt_14 : decode cX11_differenceAt 14 = .ok (.iload 6, 2) := by decide +kernel
theorem dX11_differenceAt_16 : decode cX11_differenceAt 16 = .ok (.iload_n 2, 1) := by decide +kernel
theorem dX11_differenceAt_17 : decode cX11_differenceAt 17 = .ok (.if_icmp .gt 104, 3) := by decide +kernel
theorem dX11_differenceAt_20 : decode cX11_differenceAt 20 = .ok (.iload_n 1, 1) := by decide +kernel
theorem dX11_differenceAt_21 : decode cX11_differenceAt 21 = .ok (.iload 5, 2) := by decide +kernel
theorem dX11_differenceAt_23 : decode cX11_differenceAt 23 = .ok (.invokestatic 290, 3) := by decide +kernel
theorem dX11_differenceAt_26 : decode cX11_differenceAt 26 = .ok (.iload_n 2, 1) := by decide +kernel
theorem dX11_differenceAt_27 : decode cX11_differenceAt 27 = .ok (.iload 6, 2) := by decide +kernel
theorem dX11_differenceAt_29 : decode cX11_differenceAt 29 = .ok (.invokestatic 290, 3) := by decide +kernel
theorem dX11_differenceAt_32 : decode cX11_differenceAt 32 = .ok (.lmul, 1) := by decide +kernel
theorem dX11_differenceAt_33 : decode cX11_differenceAt 33 = .ok (.aload_n 0, 1) := by decide +kernel
theorem dX11_differenceAt_34 : decode cX11_differenceAt 34 = .ok (.aload_n 0, 1) := by decide +kernel
theorem dX11_differenceAt_35 : decode cX11_differenceAt 35 = .ok (.getfield 274, 3) := by decide +kernel
theorem dX11_differenceAt_38 : decode cX11_differenceAt 38 = .ok (.aload_n 0, 1) := by decide +kernel
theorem dX11_differenceAt_39 : decode cX11_differenceAt 39 = .ok (.getfield 262, 3) := by decide +kernel
theorem dX11_differenceAt_42 : decode cX11_differenceAt 42 = .ok (.iload 5, 2) := by decide +kernel
theorem dX11_differenceAt_44 : decode cX11_differenceAt 44 = .ok (.aload_n 0, 1) := by decide +kernel
theorem dX11_differenceAt_45 : decode cX11_differenceAt 45 = .ok (.getfield 237, 3) := by decide +kernel
theorem dX11_differenceAt_48 : decode cX11_differenceAt 48 = .ok (.imul, 1) := by decide +kernel
theorem dX11_differenceAt_49 : decode cX11_differenceAt 49 = .ok (.iload 6, 2) := by decide +kernel
theorem dX11_differenceAt_51 : decode cX11_differenceAt 51 = .ok (.aload_n 0, 1) := by decide +kernel
theorem dX11_differenceAt_52 : decode cX11_differenceAt 52 = .ok (.getfield 243, 3) := by decide +kernel
theorem dX11_differenceAt_55 : decode cX11_differenceAt 55 = .ok (.imul, 1) := by decide +kernel
theorem dX11_differenceAt_56 : decode cX11_differenceAt 56 = .ok (.iadd, 1) := by decide +kernel
theorem dX11_differenceAt_57 : decode cX11_differenceAt 57 = .ok (.imul, 1) := by decide +kernel
theorem dX11_differenceAt_58 : decode cX11_differenceAt 58 = .ok (.iadd, 1) := by decide +kernel
theorem dX11_differenceAt_59 : decode cX11_differenceAt 59 = .ok (.aload_n 0, 1) := by decide +kernel
theorem dX11_differenceAt_60 : decode cX11_differenceAt 60 = .ok (.getfield 277, 3) := by decide +kernel
theorem dX11_differenceAt_63 : decode cX11_differenceAt 63 = .ok (.aload_n 0, 1) := by decide +kernel
theorem dX11_differenceAt_64 : decode cX11_differenceAt 64 = .ok (.getfield 262, 3) := by decide +kernel
theorem dX11_differenceAt_67 : decode cX11_differenceAt 67 = .ok (.iload 5, 2) := by decide +kernel
theorem dX11_differenceAt_69 : decode cX11_differenceAt 69 = .ok (.aload_n 0, 1) := by decide +kernel
theorem dX11_differenceAt_70 : decode cX11_differenceAt 70 = .ok (.getfield 240, 3) := by decide +kernel
theorem dX11_differenceAt_73 : decode cX11_differenceAt 73 = .ok (.imul, 1) := by decide +kernel
theorem dX11_differenceAt_74 : decode cX11_differenceAt 74 = .ok (.iload 6, 2) := by decide +kernel
theorem dX11_differenceAt_76 : decode cX11_differenceAt 76 = .ok (.aload_n 0, 1) := by decide +kernel
theorem dX11_differenceAt_77 : decode cX11_differenceAt 77 = .ok (.getfield 246, 3) := by decide +kernel
theorem dX11_differenceAt_80 : decode cX11_differenceAt 80 = .ok (.imul, 1) := by decide +kernel
theorem dX11_differenceAt_81 : decode cX11_differenceAt 81 = .ok (.iadd, 1) := by decide +kernel
theorem dX11_differenceAt_82 : decode cX11_differenceAt 82 = .ok (.imul, 1) := by decide +kernel
theorem dX11_differenceAt_83 : decode cX11_differenceAt 83 = .ok (.iadd, 1) := by decide +kernel
theorem dX11_differenceAt_84 : decode cX11_differenceAt 84 = .ok (.invokevirtual 195, 3) := by decide +kernel
theorem dX11_differenceAt_87 : decode cX11_differenceAt 87 = .ok (.lmul, 1) := by decide +kernel
theorem dX11_differenceAt_88 : decode cX11_differenceAt 88 = .ok (.lstore 7, 2) := by decide +kernel
theorem dX11_differenceAt_90 : decode cX11_differenceAt 90 = .ok (.lload_n 3, 1) := by decide +kernel
theorem dX11_differenceAt_91 : decode cX11_differenceAt 91 = .ok (.iload_n 1, 1) := by decide +kernel
theorem dX11_differenceAt_92 : decode cX11_differenceAt 92 = .ok (.iload 5, 2) := by decide +kernel
theorem dX11_differenceAt_94 : decode cX11_differenceAt 94 = .ok (.isub, 1) := by decide +kernel
theorem dX11_differenceAt_95 : decode cX11_differenceAt 95 = .ok (.iload_n 2, 1) := by decide +kernel
theorem dX11_differenceAt_96 : decode cX11_differenceAt 96 = .ok (.iadd, 1) := by decide +kernel
theorem dX11_differenceAt_97 : decode cX11_differenceAt 97 = .ok (.iload 6, 2) := by decide +kernel
theorem dX11_differenceAt_99 : decode cX11_differenceAt 99 = .ok (.isub, 1) := by decide +kernel
theorem dX11_differenceAt_100 : decode cX11_differenceAt 100 = .ok (.iconst 2, 1) := by decide +kernel
theorem dX11_differenceAt_101 : decode cX11_differenceAt 101 = .ok (.irem, 1) := by decide +kernel
theorem dX11_differenceAt_102 : decode cX11_differenceAt 102 = .ok (.ifCond .ne 8, 3) := by decide +kernel
theorem dX11_differenceAt_105 : decode cX11_differenceAt 105 = .ok (.lload 7, 2) := by decide +kernel
theorem dX11_differenceAt_107 : decode cX11_differenceAt 107 = .ok (.goto 6, 3) := by decide +kernel
theorem dX11_differenceAt_110 : decode cX11_differenceAt 110 = .ok (.lload 7, 2) := by decide +kernel
theorem dX11_differenceAt_112 : decode cX11_differenceAt 112 = .ok (.lneg, 1) := by decide +kernel
theorem dX11_differenceAt_113 : decode cX11_differenceAt 113 = .ok (.ladd, 1) := by decide +kernel
theorem dX11_differenceAt_114 : decode cX11_differenceAt 114 = .ok (.lstore_n 3, 1) := by decide +kernel
theorem dX11_differenceAt_115 : decode cX11_differenceAt 115 = .ok (.iinc 6 1, 3) := by decide +kernel
theorem dX11_differenceAt_118 : decode cX11_differenceAt 118 = .ok (.goto (-104), 3) := by decide +kernel
theorem dX11_differenceAt_121 : decode cX11_differenceAt 121 = .ok (.iinc 5 1, 3) := by decide +kernel
theorem dX11_differenceAt_124 : decode cX11_differenceAt 124 = .ok (.goto (-119), 3) := by decide +kernel
theorem dX11_differenceAt_127 : decode cX11_differenceAt 127 = .ok (.lload_n 3, 1) := by decide +kernel
theorem dX11_differenceAt_128 : decode cX11_differenceAt 128 = .ok (.lreturn, 1) := by decide +kernel
theorem dX11_difference_0 : decode cX11_difference 0 = .ok (.aload_n 0, 1) := by decide +kernel
theorem dX11_difference_1 : decode cX11_difference 1 = .ok (.iload_n 1, 1) := by decide +kernel
theorem dX11_difference_2 : decode cX11_difference 2 = .ok (.iload_n 2, 1) := by decide +kernel
theorem dX11_difference_3 : decode cX11_difference 3 = .ok (.iload_n 3, 1) := by decide +kernel
theorem dX11_difference_4 : decode cX11_difference 4 = .ok (.invokevirtual 284, 3) := by decide +kernel
theorem dX11_difference_7 : decode cX11_difference 7 = .ok (.ifCond .eq 31, 3) := by decide +kernel
theorem dX11_difference_10 : decode cX11_difference 10 = .ok (.iload 4, 2) := by decide +kernel
theorem dX11_difference_12 : decode cX11_difference 12 = .ok (.ifCond .lt 26, 3) := by decide +kernel
theorem dX11_difference_15 : decode cX11_difference 15 = .ok (.iload 5, 2) := by decide +kernel
theorem dX11_difference_17 : decode cX11_difference 17 = .ok (.ifCond .lt 21, 3) := by decide +kernel
theorem dX11_difference_20 : decode cX11_difference 20 = .ok (.iload 4, 2) := by decide +kernel
theorem dX11_difference_22 : decode cX11_difference 22 = .ok (.i2l, 1) := by decide +kernel
theorem dX11_difference_23 : decode cX11_difference 23 = .ok (.iload 5, 2) := by decide +kernel
theorem dX11_difference_25 : decode cX11_difference 25 = .ok (.i2l, 1) := by decide +kernel
theorem dX11_difference_26 : decode cX11_difference 26 = .ok (.ladd, 1) := by decide +kernel
theorem dX11_difference_27 : decode cX11_difference 27 = .ok (.aload_n 0, 1) := by decide +kernel
theorem dX11_difference_28 : decode cX11_difference 28 = .ok (.getfield 86, 3) := by decide +kernel
theorem dX11_difference_31 : decode cX11_difference 31 = .ok (.iconst 2, 1) := by decide +kernel
theorem dX11_difference_32 : decode cX11_difference 32 = .ok (.isub, 1) := by decide +kernel
theorem dX11_difference_33 : decode cX11_difference 33 = .ok (.i2l, 1) := by decide +kernel
theorem dX11_difference_34 : decode cX11_difference 34 = .ok (.lcmp, 1) := by decide +kernel
theorem dX11_difference_35 : decode cX11_difference 35 = .ok (.ifCond .le 7, 3) := by decide +kernel
theorem dX11_difference_38 : decode cX11_difference 38 = .ok (.ldc2_w 178, 3) := by decide +kernel
theorem dX11_difference_41 : decode cX11_difference 41 = .ok (.lreturn, 1) := by decide +kernel
theorem dX11_difference_42 : decode cX11_difference 42 = .ok (.aload_n 0, 1) := by decide +kernel
theorem dX11_difference_43 : decode cX11_difference 43 = .ok (.aload_n 0, 1) := by decide +kernel
theorem dX11_difference_44 : decode cX11_difference 44 = .ok (.invokevirtual 231, 3) := by decide +kernel
theorem dX11_difference_47 : decode cX11_difference 47 = .ok (.putfield 262, 3) := by decide +kernel
theorem dX11_difference_50 : decode cX11_difference 50 = .ok (.aload_n 0, 1) := by decide +kernel
theorem dX11_difference_51 : decode cX11_difference 51 = .ok (.sipush 149, 3) := by decide +kernel
theorem dX11_difference_54 : decode cX11_difference 54 = .ok (.sipush 149, 3) := by decide +kernel
theorem dX11_difference_57 : decode cX11_difference 57 = .ok (.invokevirtual 192, 3) := by decide +kernel
theorem dX11_difference_60 : decode cX11_difference 60 = .ok (.aload_n 0, 1) := by decide +kernel
theorem dX11_difference_61 : decode cX11_difference 61 = .ok (.iload_n 1, 1) := by decide +kernel
theorem dX11_difference_62 : decode cX11_difference 62 = .ok (.iload_n 2, 1) := by decide +kernel
theorem dX11_difference_63 : decode cX11_difference 63 = .ok (.iload_n 3, 1) := by decide +kernel
theorem dX11_difference_64 : decode cX11_difference 64 = .ok (.invokevirtual 287, 3) := by decide +kernel
theorem dX11_difference_67 : decode cX11_difference 67 = .ok (.aload_n 0, 1) := by decide +kernel
theorem dX11_difference_68 : decode cX11_difference 68 = .ok (.iload 4, 2) := by decide +kernel
theorem dX11_difference_70 : decode cX11_difference 70 = .ok (.iload 5, 2) := by decide +kernel
theorem dX11_difference_72 : decode cX11_difference 72 = .ok (.invokevirtual 293, 3) := by decide +kernel
theorem dX11_difference_75 : decode cX11_difference 75 = .ok (.lreturn, 1) := by decide +kernel
theorem dX11_formulaAt_0 : decode cX11_formulaAt 0 = .ok (.aload_n 0, 1) := by decide +kernel
theorem dX11_formulaAt_1 : decode cX11_formulaAt 1 = .ok (.iload_n 1, 1) := by decide +kernel
theorem dX11_formulaAt_2 : decode cX11_formulaAt 2 = .ok (.iload_n 2, 1) := by decide +kernel
theorem dX11_formulaAt_3 : decode cX11_formulaAt 3 = .ok (.iload_n 3, 1) := by decide +kernel
theorem dX11_formulaAt_4 : decode cX11_formulaAt 4 = .ok (.invokevirtual 287, 3) := by decide +kernel
theorem dX11_formulaAt_7 : decode cX11_formulaAt 7 = .ok (.lconst 0, 1) := by decide +kernel
theorem dX11_formulaAt_8 : decode cX11_formulaAt 8 = .ok (.lstore 4, 2) := by decide +kernel
theorem dX11_formulaAt_10 : decode cX11_formulaAt 10 = .ok (.iconst 0, 1) := by decide +kernel
theorem dX11_formulaAt_11 : decode cX11_formulaAt 11 = .ok (.istore 6, 2) := by decide +kernel
theorem dX11_formulaAt_13 : decode cX11_formulaAt 13 = .ok (.iload 6, 2) := by decide +kernel
theorem dX11_formulaAt_15 : decode cX11_formulaAt 15 = .ok (.aload_n 0, 1) := by decide +kernel
theorem dX11_formulaAt_16 : decode cX11_formulaAt 16 = .ok (.getfield 86, 3) := by decide +kernel
theorem dX11_formulaAt_19 : decode cX11_formulaAt 19 = .ok (.iconst 2, 1) := by decide +kernel
theorem dX11_formulaAt_20 : decode cX11_formulaAt 20 = .ok (.isub, 1) := by decide +kernel
theorem dX11_formulaAt_21 : decode cX11_formulaAt 21 = .ok (.if_icmp .gt 65, 3) := by decide +kernel
theorem dX11_formulaAt_24 : decode cX11_formulaAt 24 = .ok (.iconst 0, 1) := by decide +kernel
theorem dX11_formulaAt_25 : decode cX11_formulaAt 25 = .ok (.istore 7, 2) := by decide +kernel
theorem dX11_formulaAt_27 : decode cX11_formulaAt 27 = .ok (.iload 6, 2) := by decide +kernel
theorem dX11_formulaAt_29 : decode cX11_formulaAt 29 = .ok (.iload 7, 2) := by decide +kernel
theorem dX11_formulaAt_31 : decode cX11_formulaAt 31 = .ok (.iadd, 1) := by decide +kernel
theorem dX11_formulaAt_32 : decode cX11_formulaAt 32 = .ok (.aload_n 0, 1) := by decide +kernel
theorem dX11_formulaAt_33 : decode cX11_formulaAt 33 = .ok (.getfield 86, 3) := by decide +kernel
theorem dX11_formulaAt_36 : decode cX11_formulaAt 36 = .ok (.iconst 2, 1) := by decide +kernel
theorem dX11_formulaAt_37 : decode cX11_formulaAt 37 = .ok (.isub, 1) := by decide +kernel
theorem dX11_formulaAt_38 : decode cX11_formulaAt 38 = .ok (.if_icmp .gt 42, 3) := by decide +kernel
theorem dX11_formulaAt_41 : decode cX11_formulaAt 41 = .ok (.lload 4, 2) := by decide +kernel
theorem dX11_formulaAt_43 : decode cX11_formulaAt 43 = .ok (.aload_n 0, 1) := by decide +kernel
theorem dX11_formulaAt_44 : decode cX11_formulaAt 44 = .ok (.iload 6, 2) := by decide +kernel
theorem dX11_formulaAt_46 : decode cX11_formulaAt 46 = .ok (.iload 7, 2) := by decide +kernel
theorem dX11_formulaAt_48 : decode cX11_formulaAt 48 = .ok (.invokevirtual 293, 3) := by decide +kernel
theorem dX11_formulaAt_51 : decode cX11_formulaAt 51 = .ok (.aload_n 0, 1) := by decide +kernel
theorem dX11_formulaAt_52 : decode cX11_formulaAt 52 = .ok (.getfield 268, 3) := by decide +kernel
theorem dX11_formulaAt_55 : decode cX11_formulaAt 55 = .ok (.iload 6, 2) := by decide +kernel
theorem dX11_formulaAt_57 : decode cX11_formulaAt 57 = .ok (.invokestatic 290, 3) := by decide +kernel
theorem dX11_formulaAt_60 : decode cX11_formulaAt 60 = .ok (.lmul, 1) := by decide +kernel
theorem dX11_formulaAt_61 : decode cX11_formulaAt 61 = .ok (.aload_n 0, 1) := by decide +kernel
theorem dX11_formulaAt_62 : decode cX11_formulaAt 62 = .ok (.getfield 271, 3) := by decide +kernel
theorem dX11_formulaAt_65 : decode cX11_formulaAt 65 = .ok (.iload 7, 2) := by decide +kernel
theorem dX11_formulaAt_67 : decode cX11_formulaAt 67 = .ok (.invokestatic 290, 3) := by decide +kernel
theorem dX11_formulaAt_70 : decode cX11_formulaAt 70 = .ok (.lmul, 1) := by decide +kernel
theorem dX11_formulaAt_71 : decode cX11_formulaAt 71 = .ok (.ladd, 1) := by decide +kernel
theorem dX11_formulaAt_72 : decode cX11_formulaAt 72 = .ok (.lstore 4, 2) := by decide +kernel
theorem dX11_formulaAt_74 : decode cX11_formulaAt 74 = .ok (.iinc 7 1, 3) := by decide +kernel
theorem dX11_formulaAt_77 : decode cX11_formulaAt 77 = .ok (.goto (-50), 3) := by decide +kernel
theorem dX11_formulaAt_80 : decode cX11_formulaAt 80 = .ok (.iinc 6 1, 3) := by decide +kernel
theorem dX11_formulaAt_83 : decode cX11_formulaAt 83 = .ok (.goto (-70), 3) := by decide +kernel
theorem dX11_formulaAt_86 : decode cX11_formulaAt 86 = .ok (.lload 4, 2) := by decide +kernel
theorem dX11_formulaAt_88 : decode cX11_formulaAt 88 = .ok (.lreturn, 1) := by decide +kernel
theorem dX11_formula_0 : decode cX11_formula 0 = .ok (.aload_n 0, 1) := by decide +kernel
theorem dX11_formula_1 : decode cX11_formula 1 = .ok (.iload_n 1, 1) := by decide +kernel
theorem dX11_formula_2 : decode cX11_formula 2 = .ok (.iload_n 2, 1) := by decide +kernel
theorem dX11_formula_3 : decode cX11_formula 3 = .ok (.iload_n 3, 1) := by decide +kernel
theorem dX11_formula_4 : decode cX11_formula 4 = .ok (.invokevirtual 284, 3) := by decide +kernel
theorem dX11_formula_7 : decode cX11_formula 7 = .ok (.ifCond .ne 7, 3) := by decide +kernel
theorem dX11_formula_10 : decode cX11_formula 10 = .ok (.ldc2_w 178, 3) := by decide +kernel
theorem dX11_formula_13 : decode cX11_formula 13 = .ok (.lreturn, 1) := by decide +kernel
theorem dX11_formula_14 : decode cX11_formula 14 = .ok (.aload_n 0, 1) := by decide +kernel
theorem dX11_formula_15 : decode cX11_formula 15 = .ok (.aload_n 0, 1) := by decide +kernel
theorem dX11_formula_16 : decode cX11_formula 16 = .ok (.invokevirtual 231, 3) := by decide +kernel
theorem dX11_formula_19 : decode cX11_formula 19 = .ok (.putfield 262, 3) := by decide +kernel
theorem dX11_formula_22 : decode cX11_formula 22 = .ok (.aload_n 0, 1) := by decide +kernel
theorem dX11_formula_23 : decode cX11_formula 23 = .ok (.sipush 149, 3) := by decide +kernel
theorem dX11_formula_26 : decode cX11_formula 26 = .ok (.sipush 149, 3) := by decide +kernel
theorem dX11_formula_29 : decode cX11_formula 29 = .ok (.invokevirtual 192, 3) := by decide +kernel
theorem dX11_formula_32 : decode cX11_formula 32 = .ok (.aload_n 0, 1) := by decide +kernel
theorem dX11_formula_33 : decode cX11_formula 33 = .ok (.iload_n 1, 1) := by decide +kernel
theorem dX11_formula_34 : decode cX11_formula 34 = .ok (.iload_n 2, 1) := by decide +kernel
theorem dX11_formula_35 : decode cX11_formula 35 = .ok (.iload_n 3, 1) := by decide +kernel
theorem dX11_formula_36 : decode cX11_formula 36 = .ok (.invokevirtual 296, 3) := by decide +kernel
theorem dX11_formula_39 : decode cX11_formula 39 = .ok (.lreturn, 1) := by decide +kernel
theorem dX11_agrees_0 : decode cX11_agrees 0 = .ok (.aload_n 0, 1) := by decide +kernel
theorem dX11_agrees_1 : decode cX11_agrees 1 = .ok (.iload_n 1, 1) := by decide +kernel
theorem dX11_agrees_2 : decode cX11_agrees 2 = .ok (.iconst 0, 1) := by decide +kernel
theorem dX11_agrees_3 : decode cX11_agrees 3 = .ok (.iconst 0, 1) := by decide +kernel
theorem dX11_agrees_4 : decode cX11_agrees 4 = .ok (.invokevirtual 284, 3) := by decide +kernel
theorem dX11_agrees_7 : decode cX11_agrees 7 = .ok (.ifCond .eq 13, 3) := by decide +kernel
theorem dX11_agrees_10 : decode cX11_agrees 10 = .ok (.iload_n 2, 1) := by decide +kernel
theorem dX11_agrees_11 : decode cX11_agrees 11 = .ok (.iconst 0, 1) := by decide +kernel
theorem dX11_agrees_12 : decode cX11_agrees 12 = .ok (.bipush 30, 2) := by decide +kernel
theorem dX11_agrees_14 : decode cX11_agrees 14 = .ok (.invokestatic 89, 3) := by decide +kernel
theorem dX11_agrees_17 : decode cX11_agrees 17 = .ok (.ifCond .ne 5, 3) := by decide +kernel
theorem dX11_agrees_20 : decode cX11_agrees 20 = .ok (.iconst (-1), 1) := by decide +kernel
theorem dX11_agrees_21 : decode cX11_agrees 21 = .ok (.ireturn, 1) := by decide +kernel
theorem dX11_agrees_22 : decode cX11_agrees 22 = .ok (.aload_n 0, 1) := by decide +kernel
theorem dX11_agrees_23 : decode cX11_agrees 23 = .ok (.aload_n 0, 1) := by decide +kernel
theorem dX11_agrees_24 : decode cX11_agrees 24 = .ok (.invokevirtual 231, 3) := by decide +kernel
theorem dX11_agrees_27 : decode cX11_agrees 27 = .ok (.putfield 262, 3) := by decide +kernel
theorem dX11_agrees_30 : decode cX11_agrees 30 = .ok (.aload_n 0, 1) := by decide +kernel
theorem dX11_agrees_31 : decode cX11_agrees 31 = .ok (.sipush 149, 3) := by decide +kernel
theorem dX11_agrees_34 : decode cX11_agrees 34 = .ok (.sipush 149, 3) := by decide +kernel
theorem dX11_agrees_37 : decode cX11_agrees 37 = .ok (.invokevirtual 192, 3) := by decide +kernel
theorem dX11_agrees_40 : decode cX11_agrees 40 = .ok (.iconst 0, 1) := by decide +kernel
theorem dX11_agrees_41 : decode cX11_agrees 41 = .ok (.istore_n 3, 1) := by decide +kernel
theorem dX11_agrees_42 : decode cX11_agrees 42 = .ok (.iconst 0, 1) := by decide +kernel
theorem dX11_agrees_43 : decode cX11_agrees 43 = .ok (.istore 4, 2) := by decide +kernel
theorem dX11_agrees_45 : decode cX11_agrees 45 = .ok (.iload 4, 2) := by decide +kernel
theorem dX11_agrees_47 : decode cX11_agrees 47 = .ok (.iload_n 2, 1) := by decide +kernel
theorem dX11_agrees_48 : decode cX11_agrees 48 = .ok (.if_icmp .gt 53, 3) := by decide +kernel
theorem dX11_agrees_51 : decode cX11_agrees 51 = .ok (.iconst 0, 1) := by decide +kernel
theorem dX11_agrees_52 : decode cX11_agrees 52 = .ok (.istore 5, 2) := by decide +kernel
theorem dX11_agrees_54 : decode cX11_agrees 54 = .ok (.iload 5, 2) := by decide +kernel
theorem dX11_agrees_56 : decode cX11_agrees 56 = .ok (.iload_n 2, 1) := by decide +kernel
theorem dX11_agrees_57 : decode cX11_agrees 57 = .ok (.if_icmp .gt 38, 3) := by decide +kernel
theorem dX11_agrees_60 : decode cX11_agrees 60 = .ok (.iload_n 3, 1) := by decide +kernel
theorem dX11_agrees_61 : decode cX11_agrees 61 = .ok (.aload_n 0, 1) := by decide +kernel
theorem dX11_agrees_62 : decode cX11_agrees 62 = .ok (.iload_n 1, 1) := by decide +kernel
theorem dX11_agrees_63 : decode cX11_agrees 63 = .ok (.iload 4, 2) := by decide +kernel
theorem dX11_agrees_65 : decode cX11_agrees 65 = .ok (.iload 5, 2) := by decide +kernel
theorem dX11_agrees_67 : decode cX11_agrees 67 = .ok (.invokevirtual 296, 3) := by decide +kernel
theorem dX11_agrees_70 : decode cX11_agrees 70 = .ok (.aload_n 0, 1) := by decide +kernel
theorem dX11_agrees_71 : decode cX11_agrees 71 = .ok (.iload 4, 2) := by decide +kernel
theorem dX11_agrees_73 : decode cX11_agrees 73 = .ok (.iload 5, 2) := by decide +kernel
theorem dX11_agrees_75 : decode cX11_agrees 75 = .ok (.invokevirtual 195, 3) := by decide +kernel
theorem dX11_agrees_78 : decode cX11_agrees 78 = .ok (.lcmp, 1) := by decide +kernel
theorem dX11_agrees_79 : decode cX11_agrees 79 = .ok (.ifCond .ne 7, 3) := by decide +kernel
theorem dX11_agrees_82 : decode cX11_agrees 82 = .ok (.iconst 1, 1) := by decide +kernel
theorem dX11_agrees_83 : decode cX11_agrees 83 = .ok (.goto 4, 3) := by decide +kernel
theorem dX11_agrees_86 : decode cX11_agrees 86 = .ok (.iconst 0, 1) := by decide +kernel
theorem dX11_agrees_87 : decode cX11_agrees 87 = .ok (.iadd, 1) := by decide +kernel
theorem dX11_agrees_88 : decode cX11_agrees 88 = .ok (.istore_n 3, 1) := by decide +kernel
theorem dX11_agrees_89 : decode cX11_agrees 89 = .ok (.iinc 5 1, 3) := by decide +kernel
theorem dX11_agrees_92 : decode cX11_agrees 92 = .ok (.goto (-38), 3) := by decide +kernel
theorem dX11_agrees_95 : decode cX11_agrees 95 = .ok (.iinc 4 1, 3) := by decide +kernel
theorem dX11_agrees_98 : decode cX11_agrees 98 = .ok (.goto (-53), 3) := by decide +kernel
theorem dX11_agrees_101 : decode cX11_agrees 101 = .ok (.iload_n 3, 1) := by decide +kernel
theorem dX11_agrees_102 : decode cX11_agrees 102 = .ok (.ireturn, 1) := by decide +kernel
theorem dX11_isSheet_0 : decode cX11_isSheet 0 = .ok (.iload_n 0, 1) := by decide +kernel
theorem dX11_isSheet_1 : decode cX11_isSheet 1 = .ok (.iconst 0, 1) := by decide +kernel
theorem dX11_isSheet_2 : decode cX11_isSheet 2 = .ok (.iconst 3, 1) := by decide +kernel
theorem dX11_isSheet_3 : decode cX11_isSheet 3 = .ok (.invokestatic 89, 3) := by decide +kernel
theorem dX11_isSheet_6 : decode cX11_isSheet 6 = .ok (.ireturn, 1) := by decide +kernel
theorem dX11_cut_0 : decode cX11_cut 0 = .ok (.iload_n 0, 1) := by decide +kernel
theorem dX11_cut_1 : decode cX11_cut 1 = .ok (.ifCond .ne 10, 3) := by decide +kernel
theorem dX11_cut_4 : decode cX11_cut 4 = .ok (.lload_n 1, 1) := by decide +kernel
theorem dX11_cut_5 : decode cX11_cut 5 = .ok (.l2i, 1) := by decide +kernel
theorem dX11_cut_6 : decode cX11_cut 6 = .ok (.i2b, 1) := by decide +kernel
theorem dX11_cut_7 : decode cX11_cut 7 = .ok (.i2l, 1) := by decide +kernel
theorem dX11_cut_8 : decode cX11_cut 8 = .ok (.goto 16, 3) := by decide +kernel
theorem dX11_cut_11 : decode cX11_cut 11 = .ok (.iload_n 0, 1) := by decide +kernel
theorem dX11_cut_12 : decode cX11_cut 12 = .ok (.iconst 1, 1) := by decide +kernel
theorem dX11_cut_13 : decode cX11_cut 13 = .ok (.if_icmp .ne 10, 3) := by decide +kernel
theorem dX11_cut_16 : decode cX11_cut 16 = .ok (.lload_n 1, 1) := by decide +kernel
theorem dX11_cut_17 : decode cX11_cut 17 = .ok (.l2i, 1) := by decide +kernel
theorem dX11_cut_18 : decode cX11_cut 18 = .ok (.i2s, 1) := by decide +kernel
theorem dX11_cut_19 : decode cX11_cut 19 = .ok (.i2l, 1) := by decide +kernel
theorem dX11_cut_20 : decode cX11_cut 20 = .ok (.goto 4, 3) := by decide +kernel
theorem dX11_cut_23 : decode cX11_cut 23 = .ok (.lload_n 1, 1) := by decide +kernel
theorem dX11_cut_24 : decode cX11_cut 24 = .ok (.lreturn, 1) := by decide +kernel
theorem dX11_sheet_0 : decode cX11_sheet 0 = .ok (.iload_n 1, 1) := by decide +kernel
theorem dX11_sheet_1 : decode cX11_sheet 1 = .ok (.invokestatic 300, 3) := by decide +kernel
theorem dX11_sheet_4 : decode cX11_sheet 4 = .ok (.ifCond .eq 22, 3) := by decide +kernel
theorem dX11_sheet_7 : decode cX11_sheet 7 = .ok (.iload_n 2, 1) := by decide +kernel
theorem dX11_sheet_8 : decode cX11_sheet 8 = .ok (.iconst (-1), 1) := by decide +kernel
theorem dX11_sheet_9 : decode cX11_sheet 9 = .ok (.iconst 2, 1) := by decide +kernel
theorem dX11_sheet_10 : decode cX11_sheet 10 = .ok (.invokestatic 89, 3) := by decide +kernel
theorem dX11_sheet_13 : decode cX11_sheet 13 = .ok (.ifCond .eq 13, 3) := by decide +kernel
theorem dX11_sheet_16 : decode cX11_sheet 16 = .ok (.iload_n 2, 1) := by decide +kernel
theorem dX11_sheet_17 : decode cX11_sheet 17 = .ok (.ifCond .lt 11, 3) := by decide +kernel
theorem dX11_sheet_20 : decode cX11_sheet 20 = .ok (.iload_n 3, 1) := by decide +kernel
theorem dX11_sheet_21 : decode cX11_sheet 21 = .ok (.bipush 60, 2) := by decide +kernel
theorem dX11_sheet_23 : decode cX11_sheet 23 = .ok (.if_icmp .le 5, 3) := by decide +kernel
theorem dX11_sheet_26 : decode cX11_sheet 26 = .ok (.iconst (-1), 1) := by decide +kernel
theorem dX11_sheet_27 : decode cX11_sheet 27 = .ok (.ireturn, 1) := by decide +kernel
theorem dX11_sheet_28 : decode cX11_sheet 28 = .ok (.iload_n 2, 1) := by decide +kernel
theorem dX11_sheet_29 : decode cX11_sheet 29 = .ok (.ifCond .lt 10, 3) := by decide +kernel
theorem dX11_sheet_32 : decode cX11_sheet 32 = .ok (.iload_n 3, 1) := by decide +kernel
theorem dX11_sheet_33 : decode cX11_sheet 33 = .ok (.ifCond .ge 6, 3) := by decide +kernel
theorem dX11_sheet_36 : decode cX11_sheet 36 = .ok (.bipush (-14), 2) := by decide +kernel
theorem dX11_sheet_38 : decode cX11_sheet 38 = .ok (.ireturn, 1) := by decide +kernel
theorem dX11_sheet_39 : decode cX11_sheet 39 = .ok (.aload_n 0, 1) := by decide +kernel
theorem dX11_sheet_40 : decode cX11_sheet 40 = .ok (.getfield 77, 3) := by decide +kernel
theorem dX11_sheet_43 : decode cX11_sheet 43 = .ok (.iload_n 1, 1) := by decide +kernel
theorem dX11_sheet_44 : decode cX11_sheet 44 = .ok (.iload_n 2, 1) := by decide +kernel
theorem dX11_sheet_45 : decode cX11_sheet 45 = .ok (.iastore, 1) := by decide +kernel
theorem dX11_sheet_46 : decode cX11_sheet 46 = .ok (.aload_n 0, 1) := by decide +kernel
theorem dX11_sheet_47 : decode cX11_sheet 47 = .ok (.getfield 80, 3) := by decide +kernel
theorem dX11_sheet_50 : decode cX11_sheet 50 = .ok (.iload_n 1, 1) := by decide +kernel
theorem dX11_sheet_51 : decode cX11_sheet 51 = .ok (.iload_n 2, 1) := by decide +kernel
theorem dX11_sheet_52 : decode cX11_sheet 52 = .ok (.ifCond .ge 7, 3) := by decide +kernel
theorem dX11_sheet_55 : decode cX11_sheet 55 = .ok (.iconst 0, 1) := by decide +kernel
theorem dX11_sheet_56 : decode cX11_sheet 56 = .ok (.goto 4, 3) := by decide +kernel
theorem dX11_sheet_59 : decode cX11_sheet 59 = .ok (.iload_n 3, 1) := by decide +kernel
theorem dX11_sheet_60 : decode cX11_sheet 60 = .ok (.iastore, 1) := by decide +kernel
theorem dX11_sheet_61 : decode cX11_sheet 61 = .ok (.iconst 0, 1) := by decide +kernel
theorem dX11_sheet_62 : decode cX11_sheet 62 = .ok (.istore 4, 2) := by decide +kernel
theorem dX11_sheet_64 : decode cX11_sheet 64 = .ok (.iload 4, 2) := by decide +kernel
theorem dX11_sheet_66 : decode cX11_sheet 66 = .ok (.bipush 60, 2) := by decide +kernel
theorem dX11_sheet_68 : decode cX11_sheet 68 = .ok (.if_icmp .ge 22, 3) := by decide +kernel
theorem dX11_sheet_71 : decode cX11_sheet 71 = .ok (.aload_n 0, 1) := by decide +kernel
theorem dX11_sheet_72 : decode cX11_sheet 72 = .ok (.getfield 83, 3) := by decide +kernel
theorem dX11_sheet_75 : decode cX11_sheet 75 = .ok (.bipush 60, 2) := by decide +kernel
theorem dX11_sheet_77 : decode cX11_sheet 77 = .ok (.iload_n 1, 1) := by decide +kernel
theorem dX11_sheet_78 : decode cX11_sheet 78 = .ok (.imul, 1) := by decide +kernel
theorem dX11_sheet_79 : decode cX11_sheet 79 = .ok (.iload 4, 2) := by decide +kernel
theorem dX11_sheet_81 : decode cX11_sheet 81 = .ok (.iadd, 1) := by decide +kernel
theorem dX11_sheet_82 : decode cX11_sheet 82 = .ok (.lconst 0, 1) := by decide +kernel
theorem dX11_sheet_83 : decode cX11_sheet 83 = .ok (.lastore, 1) := by decide +kernel
theorem dX11_sheet_84 : decode cX11_sheet 84 = .ok (.iinc 4 1, 3) := by decide +kernel
theorem dX11_sheet_87 : decode cX11_sheet 87 = .ok (.goto (-23), 3) := by decide +kernel
theorem dX11_sheet_90 : decode cX11_sheet 90 = .ok (.iconst 1, 1) := by decide +kernel
theorem dX11_sheet_91 : decode cX11_sheet 91 = .ok (.ireturn, 1) := by decide +kernel
theorem dX11_put_0 : decode cX11_put 0 = .ok (.iload_n 1, 1) := by decide +kernel
theorem dX11_put_1 : decode cX11_put 1 = .ok (.invokestatic 300, 3) := by decide +kernel
theorem dX11_put_4 : decode cX11_put 4 = .ok (.ifCond .ne 5, 3) := by decide +kernel
theorem dX11_put_7 : decode cX11_put 7 = .ok (.iconst (-1), 1) := by decide +kernel
theorem dX11_put_8 : decode cX11_put 8 = .ok (.ireturn, 1) := by decide +kernel
theorem dX11_put_9 : decode cX11_put 9 = .ok (.aload_n 0, 1) := by decide +kernel
theorem dX11_put_10 : decode cX11_put 10 = .ok (.getfield 77, 3) := by decide +kernel
theorem dX11_put_13 : decode cX11_put 13 = .ok (.iload_n 1, 1) := by decide +kernel
theorem dX11_put_14 : decode cX11_put 14 = .ok (.iaload, 1) := by decide +kernel
theorem dX11_put_15 : decode cX11_put 15 = .ok (.ifCond .ge 6, 3) := by decide +kernel
theorem dX11_put_18 : decode cX11_put 18 = .ok (.bipush (-11), 2) := by decide +kernel
theorem dX11_put_20 : decode cX11_put 20 = .ok (.ireturn, 1) := by decide +kernel
theorem dX11_put_21 : decode cX11_put 21 = .ok (.iload_n 2, 1) := by decide +kernel
theorem dX11_put_22 : decode cX11_put 22 = .ok (.iconst 0, 1) := by decide +kernel
theorem dX11_put_23 : decode cX11_put 23 = .ok (.aload_n 0, 1) := by decide +kernel
theorem dX11_put_24 : decode cX11_put 24 = .ok (.getfield 80, 3) := by decide +kernel
theorem dX11_put_27 : decode cX11_put 27 = .ok (.iload_n 1, 1) := by decide +kernel
theorem dX11_put_28 : decode cX11_put 28 = .ok (.iaload, 1) := by decide +kernel
theorem dX11_put_29 : decode cX11_put 29 = .ok (.iconst 1, 1) := by decide +kernel
theorem dX11_put_30 : decode cX11_put 30 = .ok (.isub, 1) := by decide +kernel
theorem dX11_put_31 : decode cX11_put 31 = .ok (.invokestatic 89, 3) := by decide +kernel
theorem dX11_put_34 : decode cX11_put 34 = .ok (.ifCond .ne 6, 3) := by decide +kernel
theorem dX11_put_37 : decode cX11_put 37 = .ok (.bipush (-12), 2) := by decide +kernel
theorem dX11_put_39 : decode cX11_put 39 = .ok (.ireturn, 1) := by decide +kernel
theorem dX11_put_40 : decode cX11_put 40 = .ok (.aload_n 0, 1) := by decide +kernel
theorem dX11_put_41 : decode cX11_put 41 = .ok (.getfield 83, 3) := by decide +kernel
theorem dX11_put_44 : decode cX11_put 44 = .ok (.bipush 60, 2) := by decide +kernel
theorem dX11_put_46 : decode cX11_put 46 = .ok (.iload_n 1, 1) := by decide +kernel
theorem dX11_put_47 : decode cX11_put 47 = .ok (.imul, 1) := by decide +kernel
theorem dX11_put_48 : decode cX11_put 48 = .ok (.iload_n 2, 1) := by decide +kernel
theorem dX11_put_49 : decode cX11_put 49 = .ok (.iadd, 1) := by decide +kernel
theorem dX11_put_50 : decode cX11_put 50 = .ok (.aload_n 0, 1) := by decide +kernel
theorem dX11_put_51 : decode cX11_put 51 = .ok (.getfield 77, 3) := by decide +kernel
theorem dX11_put_54 : decode cX11_put 54 = .ok (.iload_n 1, 1) := by decide +kernel
theorem dX11_put_55 : decode cX11_put 55 = .ok (.iaload, 1) := by decide +kernel
theorem dX11_put_56 : decode cX11_put 56 = .ok (.lload_n 3, 1) := by decide +kernel
theorem dX11_put_57 : decode cX11_put 57 = .ok (.invokestatic 303, 3) := by decide +kernel
theorem dX11_put_60 : decode cX11_put 60 = .ok (.lastore, 1) := by decide +kernel
theorem dX11_put_61 : decode cX11_put 61 = .ok (.iconst 1, 1) := by decide +kernel
theorem dX11_put_62 : decode cX11_put 62 = .ok (.ireturn, 1) := by decide +kernel
theorem dX11_item_0 : decode cX11_item 0 = .ok (.iload_n 1, 1) := by decide +kernel
theorem dX11_item_1 : decode cX11_item 1 = .ok (.invokestatic 300, 3) := by decide +kernel
theorem dX11_item_4 : decode cX11_item 4 = .ok (.ifCond .eq 12, 3) := by decide +kernel
theorem dX11_item_7 : decode cX11_item 7 = .ok (.iload_n 2, 1) := by decide +kernel
theorem dX11_item_8 : decode cX11_item 8 = .ok (.iconst 0, 1) := by decide +kernel
theorem dX11_item_9 : decode cX11_item 9 = .ok (.iconst 2, 1) := by decide +kernel
theorem dX11_item_10 : decode cX11_item 10 = .ok (.invokestatic 89, 3) := by decide +kernel
theorem dX11_item_13 : decode cX11_item 13 = .ok (.ifCond .ne 5, 3) := by decide +kernel
theorem dX11_item_16 : decode cX11_item 16 = .ok (.iconst (-1), 1) := by decide +kernel
theorem dX11_item_17 : decode cX11_item 17 = .ok (.ireturn, 1) := by decide +kernel
theorem dX11_item_18 : decode cX11_item 18 = .ok (.aload_n 0, 1) := by decide +kernel
theorem dX11_item_19 : decode cX11_item 19 = .ok (.getfield 77, 3) := by decide +kernel
theorem dX11_item_22 : decode cX11_item 22 = .ok (.iload_n 1, 1) := by decide +kernel
theorem dX11_item_23 : decode cX11_item 23 = .ok (.iaload, 1) := by decide +kernel
theorem dX11_item_24 : decode cX11_item 24 = .ok (.iload_n 2, 1) := by decide +kernel
theorem dX11_item_25 : decode cX11_item 25 = .ok (.if_icmp .eq 20, 3) := by decide +kernel
theorem dX11_item_28 : decode cX11_item 28 = .ok (.aload_n 0, 1) := by decide +kernel
theorem dX11_item_29 : decode cX11_item 29 = .ok (.getfield 77, 3) := by decide +kernel
theorem dX11_item_32 : decode cX11_item 32 = .ok (.iload_n 1, 1) := by decide +kernel
theorem dX11_item_33 : decode cX11_item 33 = .ok (.iaload, 1) := by decide +kernel
theorem dX11_item_34 : decode cX11_item 34 = .ok (.ifCond .ge 8, 3) := by decide +kernel
theorem dX11_item_37 : decode cX11_item 37 = .ok (.bipush (-11), 2) := by decide +kernel
theorem dX11_item_39 : decode cX11_item 39 = .ok (.goto 5, 3) := by decide +kernel
theorem dX11_item_42 : decode cX11_item 42 = .ok (.bipush (-13), 2) := by decide +kernel
theorem dX11_item_44 : decode cX11_item 44 = .ok (.ireturn, 1) := by decide +kernel
theorem dX11_item_45 : decode cX11_item 45 = .ok (.iload_n 3, 1) := by decide +kernel
theorem dX11_item_46 : decode cX11_item 46 = .ok (.iconst 0, 1) := by decide +kernel
theorem dX11_item_47 : decode cX11_item 47 = .ok (.aload_n 0, 1) := by decide +kernel
theorem dX11_item_48 : decode cX11_item 48 = .ok (.getfield 80, 3) := by decide +kernel
theorem dX11_item_51 : decode cX11_item 51 = .ok (.iload_n 1, 1) := by decide +kernel
theorem dX11_item_52 : decode cX11_item 52 = .ok (.iaload, 1) := by decide +kernel
theorem dX11_item_53 : decode cX11_item 53 = .ok (.iconst 1, 1) := by decide +kernel
theorem dX11_item_54 : decode cX11_item 54 = .ok (.isub, 1) := by decide +kernel
theorem dX11_item_55 : decode cX11_item 55 = .ok (.invokestatic 89, 3) := by decide +kernel
theorem dX11_item_58 : decode cX11_item 58 = .ok (.ifCond .eq 18, 3) := by decide +kernel
theorem dX11_item_61 : decode cX11_item 61 = .ok (.aload_n 0, 1) := by decide +kernel
theorem dX11_item_62 : decode cX11_item 62 = .ok (.getfield 83, 3) := by decide +kernel
theorem dX11_item_65 : decode cX11_item 65 = .ok (.bipush 60, 2) := by decide +kernel
theorem dX11_item_67 : decode cX11_item 67 = .ok (.iload_n 1, 1) := by decide +kernel
theorem dX11_item_68 : decode cX11_item 68 = .ok (.imul, 1) := by decide +kernel
theorem dX11_item_69 : decode cX11_item 69 = .ok (.iload_n 3, 1) := by decide +kernel
theorem dX11_item_70 : decode cX11_item 70 = .ok (.iadd, 1) := by decide +kernel
theorem dX11_item_71 : decode cX11_item 71 = .ok (.laload, 1) := by decide +kernel
theorem dX11_item_72 : decode cX11_item 72 = .ok (.l2i, 1) := by decide +kernel
theorem dX11_item_73 : decode cX11_item 73 = .ok (.goto 5, 3) := by decide +kernel
theorem dX11_item_76 : decode cX11_item 76 = .ok (.bipush (-12), 2) := by decide +kernel
theorem dX11_item_78 : decode cX11_item 78 = .ok (.ireturn, 1) := by decide +kernel
theorem dX11_lacks_0 : decode cX11_lacks 0 = .ok (.iload_n 1, 1) := by decide +kernel
theorem dX11_lacks_1 : decode cX11_lacks 1 = .ok (.invokestatic 300, 3) := by decide +kernel
theorem dX11_lacks_4 : decode cX11_lacks 4 = .ok (.ifCond .eq 13, 3) := by decide +kernel
theorem dX11_lacks_7 : decode cX11_lacks 7 = .ok (.iload_n 2, 1) := by decide +kernel
theorem dX11_lacks_8 : decode cX11_lacks 8 = .ok (.iconst 1, 1) := by decide +kernel
theorem dX11_lacks_9 : decode cX11_lacks 9 = .ok (.bipush 10, 2) := by decide +kernel
theorem dX11_lacks_11 : decode cX11_lacks 11 = .ok (.invokestatic 89, 3) := by decide +kernel
theorem dX11_lacks_14 : decode cX11_lacks 14 = .ok (.ifCond .ne 5, 3) := by decide +kernel
theorem dX11_lacks_17 : decode cX11_lacks 17 = .ok (.iconst (-1), 1) := by decide +kernel
theorem dX11_lacks_18 : decode cX11_lacks 18 = .ok (.ireturn, 1) := by decide +kernel
theorem dX11_lacks_19 : decode cX11_lacks 19 = .ok (.aload_n 0, 1) := by decide +kernel
theorem dX11_lacks_20 : decode cX11_lacks 20 = .ok (.getfield 77, 3) := by decide +kernel
theorem dX11_lacks_23 : decode cX11_lacks 23 = .ok (.iload_n 1, 1) := by decide +kernel
theorem dX11_lacks_24 : decode cX11_lacks 24 = .ok (.iaload, 1) := by decide +kernel
theorem dX11_lacks_25 : decode cX11_lacks 25 = .ok (.ifCond .ge 8, 3) := by decide +kernel
theorem dX11_lacks_28 : decode cX11_lacks 28 = .ok (.bipush (-11), 2) := by decide +kernel
theorem dX11_lacks_30 : decode cX11_lacks 30 = .ok (.goto 19, 3) := by decide +kernel
theorem dX11_lacks_33 : decode cX11_lacks 33 = .ok (.aload_n 0, 1) := by decide +kernel
theorem dX11_lacks_34 : decode cX11_lacks 34 = .ok (.getfield 77, 3) := by decide +kernel
theorem dX11_lacks_37 : decode cX11_lacks 37 = .ok (.iload_n 1, 1) := by decide +kernel
theorem dX11_lacks_38 : decode cX11_lacks 38 = .ok (.iaload, 1) := by decide +kernel
theorem dX11_lacks_39 : decode cX11_lacks 39 = .ok (.iconst 2, 1) := by decide +kernel
theorem dX11_lacks_40 : decode cX11_lacks 40 = .ok (.if_icmp .ne 8, 3) := by decide +kernel
theorem dX11_lacks_43 : decode cX11_lacks 43 = .ok (.bipush (-13), 2) := by decide +kernel
theorem dX11_lacks_45 : decode cX11_lacks 45 = .ok (.goto 4, 3) := by decide +kernel
theorem dX11_lacks_48 : decode cX11_lacks 48 = .ok (.iconst 0, 1) := by decide +kernel
theorem dX11_lacks_49 : decode cX11_lacks 49 = .ok (.ireturn, 1) := by decide +kernel
theorem dX11_countTable_0 : decode cX11_countTable 0 = .ok (.aload_n 0, 1) := by decide +kernel
theorem dX11_countTable_1 : decode cX11_countTable 1 = .ok (.getfield 80, 3) := by decide +kernel
theorem dX11_countTable_4 : decode cX11_countTable 4 = .ok (.iload_n 1, 1) := by decide +kernel
theorem dX11_countTable_5 : decode cX11_countTable 5 = .ok (.iaload, 1) := by decide +kernel
theorem dX11_countTable_6 : decode cX11_countTable 6 = .ok (.istore_n 3, 1) := by decide +kernel
theorem dX11_countTable_7 : decode cX11_countTable 7 = .ok (.aload_n 0, 1) := by decide +kernel
theorem dX11_countTable_8 : decode cX11_countTable 8 = .ok (.iload_n 3, 1) := by decide +kernel
theorem dX11_countTable_9 : decode cX11_countTable 9 = .ok (.iload_n 2, 1) := by decide +kernel
theorem dX11_countTable_10 : decode cX11_countTable 10 = .ok (.if_icmp .ge 7, 3) := by decide +kernel
theorem dX11_countTable_13 : decode cX11_countTable 13 = .ok (.iload_n 3, 1) := by decide +kernel
theorem dX11_countTable_14 : decode cX11_countTable 14 = .ok (.goto 4, 3) := by decide +kernel
theorem dX11_countTable_17 : decode cX11_countTable 17 = .ok (.iload_n 2, 1) := by decide +kernel
theorem dX11_countTable_18 : decode cX11_countTable 18 = .ok (.iload_n 3, 1) := by decide +kernel
theorem dX11_countTable_19 : decode cX11_countTable 19 = .ok (.iload_n 2, 1) := by decide +kernel
theorem dX11_countTable_20 : decode cX11_countTable 20 = .ok (.idiv, 1) := by decide +kernel
theorem dX11_countTable_21 : decode cX11_countTable 21 = .ok (.invokevirtual 180, 3) := by decide +kernel
theorem dX11_countTable_24 : decode cX11_countTable 24 = .ok (.return_, 1) := by decide +kernel
theorem dX11_lay_0 : decode cX11_lay 0 = .ok (.aload_n 0, 1) := by decide +kernel
theorem dX11_lay_1 : decode cX11_lay 1 = .ok (.iload_n 1, 1) := by decide +kernel
theorem dX11_lay_2 : decode cX11_lay 2 = .ok (.iload_n 2, 1) := by decide +kernel
theorem dX11_lay_3 : decode cX11_lay 3 = .ok (.invokevirtual 307, 3) := by decide +kernel
theorem dX11_lay_6 : decode cX11_lay 6 = .ok (.istore_n 3, 1) := by decide +kernel
theorem dX11_lay_7 : decode cX11_lay 7 = .ok (.iload_n 3, 1) := by decide +kernel
theorem dX11_lay_8 : decode cX11_lay 8 = .ok (.ifCond .eq 5, 3) := by decide +kernel
theorem dX11_lay_11 : decode cX11_lay 11 = .ok (.iload_n 3, 1) := by decide +kernel
theorem dX11_lay_12 : decode cX11_lay 12 = .ok (.ireturn, 1) := by decide +kernel
theorem dX11_lay_13 : decode cX11_lay 13 = .ok (.aload_n 0, 1) := by decide +kernel
theorem dX11_lay_14 : decode cX11_lay 14 = .ok (.iload_n 1, 1) := by decide +kernel
theorem dX11_lay_15 : decode cX11_lay 15 = .ok (.iload_n 2, 1) := by decide +kernel
theorem dX11_lay_16 : decode cX11_lay 16 = .ok (.invokevirtual 310, 3) := by decide +kernel
theorem dX11_lay_19 : decode cX11_lay 19 = .ok (.iconst 1, 1) := by decide +kernel
theorem dX11_lay_20 : decode cX11_lay 20 = .ok (.istore 4, 2) := by decide +kernel
theorem dX11_lay_22 : decode cX11_lay 22 = .ok (.iconst 0, 1) := by decide +kernel
theorem dX11_lay_23 : decode cX11_lay 23 = .ok (.istore 5, 2) := by decide +kernel
theorem dX11_lay_25 : decode cX11_lay 25 = .ok (.iload 5, 2) := by decide +kernel
theorem dX11_lay_27 : decode cX11_lay 27 = .ok (.aload_n 0, 1) := by decide +kernel
theorem dX11_lay_28 : decode cX11_lay 28 = .ok (.getfield 80, 3) := by decide +kernel
theorem dX11_lay_31 : decode cX11_lay 31 = .ok (.iload_n 1, 1) := by decide +kernel
theorem dX11_lay_32 : decode cX11_lay 32 = .ok (.iaload, 1) := by decide +kernel
theorem dX11_lay_33 : decode cX11_lay 33 = .ok (.if_icmp .ge 60, 3) := by decide +kernel
theorem dX11_lay_36 : decode cX11_lay 36 = .ok (.iload 4, 2) := by decide +kernel
theorem dX11_lay_38 : decode cX11_lay 38 = .ok (.ifCond .eq 46, 3) := by decide +kernel
theorem dX11_lay_41 : decode cX11_lay 41 = .ok (.aload_n 0, 1) := by decide +kernel
theorem dX11_lay_42 : decode cX11_lay 42 = .ok (.getfield 62, 3) := by decide +kernel
theorem dX11_lay_45 : decode cX11_lay 45 = .ok (.iconst 0, 1) := by decide +kernel
theorem dX11_lay_46 : decode cX11_lay 46 = .ok (.iload 5, 2) := by decide +kernel
theorem dX11_lay_48 : decode cX11_lay 48 = .ok (.iload_n 2, 1) := by decide +kernel
theorem dX11_lay_49 : decode cX11_lay 49 = .ok (.irem, 1) := by decide +kernel
theorem dX11_lay_50 : decode cX11_lay 50 = .ok (.iload 5, 2) := by decide +kernel
theorem dX11_lay_52 : decode cX11_lay 52 = .ok (.iload_n 2, 1) := by decide +kernel
theorem dX11_lay_53 : decode cX11_lay 53 = .ok (.idiv, 1) := by decide +kernel
theorem dX11_lay_54 : decode cX11_lay 54 = .ok (.invokestatic 171, 3) := by decide +kernel
theorem dX11_lay_57 : decode cX11_lay 57 = .ok (.laload, 1) := by decide +kernel
theorem dX11_lay_58 : decode cX11_lay 58 = .ok (.aload_n 0, 1) := by decide +kernel
theorem dX11_lay_59 : decode cX11_lay 59 = .ok (.getfield 77, 3) := by decide +kernel
theorem dX11_lay_62 : decode cX11_lay 62 = .ok (.iload_n 1, 1) := by decide +kernel
theorem dX11_lay_63 : decode cX11_lay 63 = .ok (.iaload, 1) := by decide +kernel
theorem dX11_lay_64 : decode cX11_lay 64 = .ok (.ifCond .ne 9, 3) := by decide +kernel
theorem dX11_lay_67 : decode cX11_lay 67 = .ok (.ldc2_w 313, 3) := by decide +kernel
theorem dX11_lay_70 : decode cX11_lay 70 = .ok (.goto 6, 3) := by decide +kernel
theorem dX11_lay_73 : decode cX11_lay 73 = .ok (.ldc2_w 315, 3) := by decide +kernel
theorem dX11_lay_76 : decode cX11_lay 76 = .ok (.lcmp, 1) := by decide +kernel
theorem dX11_lay_77 : decode cX11_lay 77 = .ok (.ifCond .gt 7, 3) := by decide +kernel
theorem dX11_lay_80 : decode cX11_lay 80 = .ok (.iconst 1, 1) := by decide +kernel
theorem dX11_lay_81 : decode cX11_lay 81 = .ok (.goto 4, 3) := by decide +kernel
theorem dX11_lay_84 : decode cX11_lay 84 = .ok (.iconst 0, 1) := by decide +kernel
theorem dX11_lay_85 : decode cX11_lay 85 = .ok (.istore 4, 2) := by decide +kernel
theorem dX11_lay_87 : decode cX11_lay 87 = .ok (.iinc 5 1, 3) := by decide +kernel
theorem dX11_lay_90 : decode cX11_lay 90 = .ok (.goto (-65), 3) := by decide +kernel
theorem dX11_lay_93 : decode cX11_lay 93 = .ok (.iconst 0, 1) := by decide +kernel
theorem dX11_lay_94 : decode cX11_lay 94 = .ok (.istore 5, 2) := by decide +kernel
theorem dX11_lay_96 : decode cX11_lay 96 = .ok (.iload 5, 2) := by decide +kernel
theorem dX11_lay_98 : decode cX11_lay 98 = .ok (.aload_n 0, 1) := by decide +kernel
theorem dX11_lay_99 : decode cX11_lay 99 = .ok (.getfield 80, 3) := by decide +kernel
theorem dX11_lay_102 : decode cX11_lay 102 = .ok (.iload_n 1, 1) := by decide +kernel
theorem dX11_lay_103 : decode cX11_lay 103 = .ok (.iaload, 1) := by decide +kernel
theorem dX11_lay_104 : decode cX11_lay 104 = .ok (.if_icmp .ge 43, 3) := by decide +kernel
theorem dX11_lay_107 : decode cX11_lay 107 = .ok (.iload 4, 2) := by decide +kernel
theorem dX11_lay_109 : decode cX11_lay 109 = .ok (.ifCond .eq 38, 3) := by decide +kernel
theorem dX11_lay_112 : decode cX11_lay 112 = .ok (.aload_n 0, 1) := by decide +kernel
theorem dX11_lay_113 : decode cX11_lay 113 = .ok (.getfield 83, 3) := by decide +kernel
theorem dX11_lay_116 : decode cX11_lay 116 = .ok (.bipush 60, 2) := by decide +kernel
theorem dX11_lay_118 : decode cX11_lay 118 = .ok (.iload_n 1, 1) := by decide +kernel
theorem dX11_lay_119 : decode cX11_lay 119 = .ok (.imul, 1) := by decide +kernel
theorem dX11_lay_120 : decode cX11_lay 120 = .ok (.iload 5, 2) := by decide +kernel
theorem dX11_lay_122 : decode cX11_lay 122 = .ok (.iadd, 1) := by decide +kernel
theorem dX11_lay_123 : decode cX11_lay 123 = .ok (.aload_n 0, 1) := by decide +kernel
theorem dX11_lay_124 : decode cX11_lay 124 = .ok (.getfield 62, 3) := by decide +kernel
theorem dX11_lay_127 : decode cX11_lay 127 = .ok (.iconst 0, 1) := by decide +kernel
theorem dX11_lay_128 : decode cX11_lay 128 = .ok (.iload 5, 2) := by decide +kernel
theorem dX11_lay_130 : decode cX11_lay 130 = .ok (.iload_n 2, 1) := by decide +kernel
theorem dX11_lay_131 : decode cX11_lay 131 = .ok (.irem, 1) := by decide +kernel
theorem dX11_lay_132 : decode cX11_lay 132 = .ok (.iload 5, 2) := by decide +kernel
theorem dX11_lay_134 : decode cX11_lay 134 = .ok (.iload_n 2, 1) := by decide +kernel
theorem dX11_lay_135 : decode cX11_lay 135 = .ok (.idiv, 1) := by decide +kernel
theorem dX11_lay_136 : decode cX11_lay 136 = .ok (.invokestatic 171, 3) := by decide +kernel
theorem dX11_lay_139 : decode cX11_lay 139 = .ok (.laload, 1) := by decide +kernel
theorem dX11_lay_140 : decode cX11_lay 140 = .ok (.lastore, 1) := by decide +kernel
theorem dX11_lay_141 : decode cX11_lay 141 = .ok (.iinc 5 1, 3) := by decide +kernel
theorem dX11_lay_144 : decode cX11_lay 144 = .ok (.goto (-48), 3) := by decide +kernel
theorem dX11_lay_147 : decode cX11_lay 147 = .ok (.iload 4, 2) := by decide +kernel
theorem dX11_lay_149 : decode cX11_lay 149 = .ok (.ifCond .eq 12, 3) := by decide +kernel
theorem dX11_lay_152 : decode cX11_lay 152 = .ok (.aload_n 0, 1) := by decide +kernel
theorem dX11_lay_153 : decode cX11_lay 153 = .ok (.getfield 80, 3) := by decide +kernel
theorem dX11_lay_156 : decode cX11_lay 156 = .ok (.iload_n 1, 1) := by decide +kernel
theorem dX11_lay_157 : decode cX11_lay 157 = .ok (.iaload, 1) := by decide +kernel
theorem dX11_lay_158 : decode cX11_lay 158 = .ok (.goto 5, 3) := by decide +kernel
theorem dX11_lay_161 : decode cX11_lay 161 = .ok (.bipush (-16), 2) := by decide +kernel
theorem dX11_lay_163 : decode cX11_lay 163 = .ok (.ireturn, 1) := by decide +kernel
theorem dX11_check_0 : decode cX11_check 0 = .ok (.aload_n 0, 1) := by decide +kernel
theorem dX11_check_1 : decode cX11_check 1 = .ok (.iload_n 1, 1) := by decide +kernel
theorem dX11_check_2 : decode cX11_check 2 = .ok (.iload_n 2, 1) := by decide +kernel
theorem dX11_check_3 : decode cX11_check 3 = .ok (.invokevirtual 307, 3) := by decide +kernel
theorem dX11_check_6 : decode cX11_check 6 = .ok (.istore_n 3, 1) := by decide +kernel
theorem dX11_check_7 : decode cX11_check 7 = .ok (.iload_n 3, 1) := by decide +kernel
theorem dX11_check_8 : decode cX11_check 8 = .ok (.ifCond .eq 5, 3) := by decide +kernel
theorem dX11_check_11 : decode cX11_check 11 = .ok (.iload_n 3, 1) := by decide +kernel
theorem dX11_check_12 : decode cX11_check 12 = .ok (.ireturn, 1) := by decide +kernel
theorem dX11_check_13 : decode cX11_check 13 = .ok (.aload_n 0, 1) := by decide +kernel
theorem dX11_check_14 : decode cX11_check 14 = .ok (.iload_n 1, 1) := by decide +kernel
theorem dX11_check_15 : decode cX11_check 15 = .ok (.iload_n 2, 1) := by decide +kernel
theorem dX11_check_16 : decode cX11_check 16 = .ok (.invokevirtual 310, 3) := by decide +kernel
theorem dX11_check_19 : decode cX11_check 19 = .ok (.iconst 0, 1) := by decide +kernel
theorem dX11_check_20 : decode cX11_check 20 = .ok (.istore 4, 2) := by decide +kernel
theorem dX11_check_22 : decode cX11_check 22 = .ok (.iload 4, 2) := by decide +kernel
theorem dX11_check_24 : decode cX11_check 24 = .ok (.aload_n 0, 1) := by decide +kernel
theorem dX11_check_25 : decode cX11_check 25 = .ok (.getfield 80, 3) := by decide +kernel
theorem dX11_check_28 : decode cX11_check 28 = .ok (.iload_n 1, 1) := by decide +kernel
theorem dX11_check_29 : decode cX11_check 29 = .ok (.iaload, 1) := by decide +kernel
theorem dX11_check_30 : decode cX11_check 30 = .ok (.if_icmp .ge 45, 3) := by decide +kernel
theorem dX11_check_33 : decode cX11_check 33 = .ok (.aload_n 0, 1) := by decide +kernel
theorem dX11_check_34 : decode cX11_check 34 = .ok (.getfield 83, 3) := by decide +kernel
theorem dX11_check_37 : decode cX11_check 37 = .ok (.bipush 60, 2) := by decide +kernel
theorem dX11_check_39 : decode cX11_check 39 = .ok (.iload_n 1, 1) := by decide +kernel
theorem dX11_check_40 : decode cX11_check 40 = .ok (.imul, 1) := by decide +kernel
theorem dX11_check_41 : decode cX11_check 41 = .ok (.iload 4, 2) := by decide +kernel
theorem dX11_check_43 : decode cX11_check 43 = .ok (.iadd, 1) := by decide +kernel
theorem dX11_check_44 : decode cX11_check 44 = .ok (.laload, 1) := by decide +kernel
theorem dX11_check_45 : decode cX11_check 45 = .ok (.aload_n 0, 1) := by decide +kernel
theorem dX11_check_46 : decode cX11_check 46 = .ok (.getfield 62, 3) := by decide +kernel
theorem dX11_check_49 : decode cX11_check 49 = .ok (.iconst 0, 1) := by decide +kernel
theorem dX11_check_50 : decode cX11_check 50 = .ok (.iload 4, 2) := by decide +kernel
theorem dX11_check_52 : decode cX11_check 52 = .ok (.iload_n 2, 1) := by decide +kernel
theorem dX11_check_53 : decode cX11_check 53 = .ok (.irem, 1) := by decide +kernel
theorem dX11_check_54 : decode cX11_check 54 = .ok (.iload 4, 2) := by decide +kernel
theorem dX11_check_56 : decode cX11_check 56 = .ok (.iload_n 2, 1) := by decide +kernel
theorem dX11_check_57 : decode cX11_check 57 = .ok (.idiv, 1) := by decide +kernel
theorem dX11_check_58 : decode cX11_check 58 = .ok (.invokestatic 171, 3) := by decide +kernel
theorem dX11_check_61 : decode cX11_check 61 = .ok (.laload, 1) := by decide +kernel
theorem dX11_check_62 : decode cX11_check 62 = .ok (.lcmp, 1) := by decide +kernel
theorem dX11_check_63 : decode cX11_check 63 = .ok (.ifCond .eq 6, 3) := by decide +kernel
theorem dX11_check_66 : decode cX11_check 66 = .ok (.iload 4, 2) := by decide +kernel
theorem dX11_check_68 : decode cX11_check 68 = .ok (.ireturn, 1) := by decide +kernel
theorem dX11_check_69 : decode cX11_check 69 = .ok (.iinc 4 1, 3) := by decide +kernel
theorem dX11_check_72 : decode cX11_check 72 = .ok (.goto (-50), 3) := by decide +kernel
theorem dX11_check_75 : decode cX11_check 75 = .ok (.bipush (-3), 2) := by decide +kernel
theorem dX11_check_77 : decode cX11_check 77 = .ok (.ireturn, 1) := by decide +kernel
theorem dX11_isFree_0 : decode cX11_isFree 0 = .ok (.iconst 1, 1) := by decide +kernel
theorem dX11_isFree_1 : decode cX11_isFree 1 = .ok (.istore_n 3, 1) := by decide +kernel
theorem dX11_isFree_2 : decode cX11_isFree 2 = .ok (.iconst 0, 1) := by decide +kernel
theorem dX11_isFree_3 : decode cX11_isFree 3 = .ok (.istore 4, 2) := by decide +kernel
theorem dX11_isFree_5 : decode cX11_isFree 5 = .ok (.iload 4, 2) := by decide +kernel
theorem dX11_isFree_7 : decode cX11_isFree 7 = .ok (.aload_n 0, 1) := by decide +kernel
theorem dX11_isFree_8 : decode cX11_isFree 8 = .ok (.getfield 80, 3) := by decide +kernel
theorem dX11_isFree_11 : decode cX11_isFree 11 = .ok (.iload_n 1, 1) := by decide +kernel
theorem dX11_isFree_12 : decode cX11_isFree 12 = .ok (.iaload, 1) := by decide +kernel
theorem dX11_isFree_13 : decode cX11_isFree 13 = .ok (.if_icmp .ge 47, 3) := by decide +kernel
theorem dX11_isFree_16 : decode cX11_isFree 16 = .ok (.iload_n 3, 1) := by decide +kernel
theorem dX11_isFree_17 : decode cX11_isFree 17 = .ok (.ifCond .eq 35, 3) := by decide +kernel
theorem dX11_isFree_20 : decode cX11_isFree 20 = .ok (.aload_n 0, 1) := by decide +kernel
theorem dX11_isFree_21 : decode cX11_isFree 21 = .ok (.getfield 83, 3) := by decide +kernel
theorem dX11_isFree_24 : decode cX11_isFree 24 = .ok (.bipush 60, 2) := by decide +kernel
theorem dX11_isFree_26 : decode cX11_isFree 26 = .ok (.iload_n 1, 1) := by decide +kernel
theorem dX11_isFree_27 : decode cX11_isFree 27 = .ok (.imul, 1) := by decide +kernel
theorem dX11_isFree_28 : decode cX11_isFree 28 = .ok (.iload 4, 2) := by decide +kernel
theorem dX11_isFree_30 : decode cX11_isFree 30 = .ok (.iadd, 1) := by decide +kernel
theorem dX11_isFree_31 : decode cX11_isFree 31 = .ok (.laload, 1) := by decide +kernel
theorem dX11_isFree_32 : decode cX11_isFree 32 = .ok (.aload_n 0, 1) := by decide +kernel
theorem dX11_isFree_33 : decode cX11_isFree 33 = .ok (.iload 4, 2) := by decide +kernel
theorem dX11_isFree_35 : decode cX11_isFree 35 = .ok (.iload_n 2, 1) := by decide +kernel
theorem dX11_isFree_36 : decode cX11_isFree 36 = .ok (.irem, 1) := by decide +kernel
theorem dX11_isFree_37 : decode cX11_isFree 37 = .ok (.iload 4, 2) := by decide +kernel
theorem dX11_isFree_39 : decode cX11_isFree 39 = .ok (.iload_n 2, 1) := by decide +kernel
theorem dX11_isFree_40 : decode cX11_isFree 40 = .ok (.idiv, 1) := by decide +kernel
theorem dX11_isFree_41 : decode cX11_isFree 41 = .ok (.invokevirtual 195, 3) := by decide +kernel
theorem dX11_isFree_44 : decode cX11_isFree 44 = .ok (.lcmp, 1) := by decide +kernel
theorem dX11_isFree_45 : decode cX11_isFree 45 = .ok (.ifCond .ne 7, 3) := by decide +kernel
theorem dX11_isFree_48 : decode cX11_isFree 48 = .ok (.iconst 1, 1) := by decide +kernel
theorem dX11_isFree_49 : decode cX11_isFree 49 = .ok (.goto 4, 3) := by decide +kernel
theorem dX11_isFree_52 : decode cX11_isFree 52 = .ok (.iconst 0, 1) := by decide +kernel
theorem dX11_isFree_53 : decode cX11_isFree 53 = .ok (.istore_n 3, 1) := by decide +kernel
theorem dX11_isFree_54 : decode cX11_isFree 54 = .ok (.iinc 4 1, 3) := by decide +kernel
theorem dX11_isFree_57 : decode cX11_isFree 57 = .ok (.goto (-52), 3) := by decide +kernel
theorem dX11_isFree_60 : decode cX11_isFree 60 = .ok (.iload_n 3, 1) := by decide +kernel
theorem dX11_isFree_61 : decode cX11_isFree 61 = .ok (.ireturn, 1) := by decide +kernel
theorem dX11_more_0 : decode cX11_more 0 = .ok (.iload_n 3, 1) := by decide +kernel
theorem dX11_more_1 : decode cX11_more 1 = .ok (.iconst 0, 1) := by decide +kernel
theorem dX11_more_2 : decode cX11_more 2 = .ok (.iconst 1, 1) := by decide +kernel
theorem dX11_more_3 : decode cX11_more 3 = .ok (.invokestatic 89, 3) := by decide +kernel
theorem dX11_more_6 : decode cX11_more 6 = .ok (.ifCond .eq 12, 3) := by decide +kernel
theorem dX11_more_9 : decode cX11_more 9 = .ok (.aload_n 0, 1) := by decide +kernel
theorem dX11_more_10 : decode cX11_more 10 = .ok (.iload_n 1, 1) := by decide +kernel
theorem dX11_more_11 : decode cX11_more 11 = .ok (.iload_n 2, 1) := by decide +kernel
theorem dX11_more_12 : decode cX11_more 12 = .ok (.invokevirtual 307, 3) := by decide +kernel
theorem dX11_more_15 : decode cX11_more 15 = .ok (.goto 4, 3) := by decide +kernel
theorem dX11_more_18 : decode cX11_more 18 = .ok (.iconst (-1), 1) := by decide +kernel
theorem dX11_more_19 : decode cX11_more 19 = .ok (.istore 4, 2) := by decide +kernel
theorem dX11_more_21 : decode cX11_more 21 = .ok (.iload 4, 2) := by decide +kernel
theorem dX11_more_23 : decode cX11_more 23 = .ok (.ifCond .eq 6, 3) := by decide +kernel
theorem dX11_more_26 : decode cX11_more 26 = .ok (.iload 4, 2) := by decide +kernel
theorem dX11_more_28 : decode cX11_more 28 = .ok (.ireturn, 1) := by decide +kernel
theorem dX11_more_29 : decode cX11_more 29 = .ok (.iconst 0, 1) := by decide +kernel
theorem dX11_more_30 : decode cX11_more 30 = .ok (.istore 5, 2) := by decide +kernel
theorem dX11_more_32 : decode cX11_more 32 = .ok (.bipush (-3), 2) := by decide +kernel
theorem dX11_more_34 : decode cX11_more 34 = .ok (.istore 6, 2) := by decide +kernel
theorem dX11_more_36 : decode cX11_more 36 = .ok (.bipush 24, 2) := by decide +kernel
theorem dX11_more_38 : decode cX11_more 38 = .ok (.istore 7, 2) := by decide +kernel
theorem dX11_more_40 : decode cX11_more 40 = .ok (.iload 7, 2) := by decide +kernel
theorem dX11_more_42 : decode cX11_more 42 = .ok (.ifCond .le 81, 3) := by decide +kernel
theorem dX11_more_45 : decode cX11_more 45 = .ok (.aload_n 0, 1) := by decide +kernel
theorem dX11_more_46 : decode cX11_more 46 = .ok (.iload_n 2, 1) := by decide +kernel
theorem dX11_more_47 : decode cX11_more 47 = .ok (.aload_n 0, 1) := by decide +kernel
theorem dX11_more_48 : decode cX11_more 48 = .ok (.getfield 80, 3) := by decide +kernel
theorem dX11_more_51 : decode cX11_more 51 = .ok (.iload_n 1, 1) := by decide +kernel
theorem dX11_more_52 : decode cX11_more 52 = .ok (.iaload, 1) := by decide +kernel
theorem dX11_more_53 : decode cX11_more 53 = .ok (.iload_n 2, 1) := by decide +kernel
theorem dX11_more_54 : decode cX11_more 54 = .ok (.idiv, 1) := by decide +kernel
theorem dX11_more_55 : decode cX11_more 55 = .ok (.invokevirtual 192, 3) := by decide +kernel
theorem dX11_more_58 : decode cX11_more 58 = .ok (.aload_n 0, 1) := by decide +kernel
theorem dX11_more_59 : decode cX11_more 59 = .ok (.iload 7, 2) := by decide +kernel
theorem dX11_more_61 : decode cX11_more 61 = .ok (.iconst 5, 1) := by decide +kernel
theorem dX11_more_62 : decode cX11_more 62 = .ok (.idiv, 1) := by decide +kernel
theorem dX11_more_63 : decode cX11_more 63 = .ok (.iload 7, 2) := by decide +kernel
theorem dX11_more_65 : decode cX11_more 65 = .ok (.iconst 5, 1) := by decide +kernel
theorem dX11_more_66 : decode cX11_more 66 = .ok (.irem, 1) := by decide +kernel
theorem dX11_more_67 : decode cX11_more 67 = .ok (.invokevirtual 189, 3) := by decide +kernel
theorem dX11_more_70 : decode cX11_more 70 = .ok (.aload_n 0, 1) := by decide +kernel
theorem dX11_more_71 : decode cX11_more 71 = .ok (.iload_n 1, 1) := by decide +kernel
theorem dX11_more_72 : decode cX11_more 72 = .ok (.iload_n 2, 1) := by decide +kernel
theorem dX11_more_73 : decode cX11_more 73 = .ok (.invokevirtual 317, 3) := by decide +kernel
theorem dX11_more_76 : decode cX11_more 76 = .ok (.istore 8, 2) := by decide +kernel
theorem dX11_more_78 : decode cX11_more 78 = .ok (.iload 5, 2) := by decide +kernel
theorem dX11_more_80 : decode cX11_more 80 = .ok (.iload 8, 2) := by decide +kernel
theorem dX11_more_82 : decode cX11_more 82 = .ok (.ifCond .eq 7, 3) := by decide +kernel
theorem dX11_more_85 : decode cX11_more 85 = .ok (.iconst 1, 1) := by decide +kernel
theorem dX11_more_86 : decode cX11_more 86 = .ok (.goto 4, 3) := by decide +kernel
theorem dX11_more_89 : decode cX11_more 89 = .ok (.iconst 0, 1) := by decide +kernel
theorem dX11_more_90 : decode cX11_more 90 = .ok (.iadd, 1) := by decide +kernel
theorem dX11_more_91 : decode cX11_more 91 = .ok (.istore 5, 2) := by decide +kernel
theorem dX11_more_93 : decode cX11_more 93 = .ok (.iload 8, 2) := by decide +kernel
theorem dX11_more_95 : decode cX11_more 95 = .ok (.ifCond .eq 18, 3) := by decide +kernel
theorem dX11_more_98 : decode cX11_more 98 = .ok (.bipush 10, 2) := by decide +kernel
theorem dX11_more_100 : decode cX11_more 100 = .ok (.iload 7, 2) := by decide +kernel
theorem dX11_more_102 : decode cX11_more 102 = .ok (.iconst 5, 1) := by decide +kernel
theorem dX11_more_103 : decode cX11_more 103 = .ok (.idiv, 1) := by decide +kernel
theorem dX11_more_104 : decode cX11_more 104 = .ok (.imul, 1) := by decide +kernel
theorem dX11_more_105 : decode cX11_more 105 = .ok (.iload 7, 2) := by decide +kernel
theorem dX11_more_107 : decode cX11_more 107 = .ok (.iconst 5, 1) := by decide +kernel
theorem dX11_more_108 : decode cX11_more 108 = .ok (.irem, 1) := by decide +kernel
theorem dX11_more_109 : decode cX11_more 109 = .ok (.iadd, 1) := by decide +kernel
theorem dX11_more_110 : decode cX11_more 110 = .ok (.goto 5, 3) := by decide +kernel
theorem dX11_more_113 : decode cX11_more 113 = .ok (.iload 6, 2) := by decide +kernel
theorem dX11_more_115 : decode cX11_more 115 = .ok (.istore 6, 2) := by decide +kernel
theorem dX11_more_117 : decode cX11_more 117 = .ok (.iinc 7 (-1), 3) := by decide +kernel
theorem dX11_more_120 : decode cX11_more 120 = .ok (.goto (-80), 3) := by decide +kernel
theorem dX11_more_123 : decode cX11_more 123 = .ok (.iload_n 3, 1) := by decide +kernel
theorem dX11_more_124 : decode cX11_more 124 = .ok (.ifCond .ne 8, 3) := by decide +kernel
theorem dX11_more_127 : decode cX11_more 127 = .ok (.iload 5, 2) := by decide +kernel
theorem dX11_more_129 : decode cX11_more 129 = .ok (.goto 5, 3) := by decide +kernel
theorem dX11_more_132 : decode cX11_more 132 = .ok (.iload 6, 2) := by decide +kernel
theorem dX11_more_134 : decode cX11_more 134 = .ok (.ireturn, 1) := by decide +kernel
theorem dX11_seed_0 : decode cX11_seed 0 = .ok (.aload_n 0, 1) := by decide +kernel
theorem dX11_seed_1 : decode cX11_seed 1 = .ok (.getfield 9, 3) := by decide +kernel
theorem dX11_seed_4 : decode cX11_seed 4 = .ok (.istore_n 2, 1) := by decide +kernel
theorem dX11_seed_5 : decode cX11_seed 5 = .ok (.aload_n 0, 1) := by decide +kernel
theorem dX11_seed_6 : decode cX11_seed 6 = .ok (.iload_n 1, 1) := by decide +kernel
theorem dX11_seed_7 : decode cX11_seed 7 = .ok (.putfield 9, 3) := by decide +kernel
theorem dX11_seed_10 : decode cX11_seed 10 = .ok (.iload_n 2, 1) := by decide +kernel
theorem dX11_seed_11 : decode cX11_seed 11 = .ok (.ireturn, 1) := by decide +kernel
theorem dX11_drawn_0 : decode cX11_drawn 0 = .ok (.aload_n 0, 1) := by decide +kernel
theorem dX11_drawn_1 : decode cX11_drawn 1 = .ok (.aload_n 0, 1) := by decide +kernel
theorem dX11_drawn_2 : decode cX11_drawn 2 = .ok (.getfield 9, 3) := by decide +kernel
theorem dX11_drawn_5 : decode cX11_drawn 5 = .ok (.ldc_w 321, 3) := by decide +kernel
theorem dX11_drawn_8 : decode cX11_drawn 8 = .ok (.imul, 1) := by decide +kernel
theorem dX11_drawn_9 : decode cX11_drawn 9 = .ok (.sipush 12345, 3) := by decide +kernel
theorem dX11_drawn_12 : decode cX11_drawn 12 = .ok (.iadd, 1) := by decide +kernel
theorem dX11_drawn_13 : decode cX11_drawn 13 = .ok (.putfield 9, 3) := by decide +kernel
theorem dX11_drawn_16 : decode cX11_drawn 16 = .ok (.aload_n 0, 1) := by decide +kernel
theorem dX11_drawn_17 : decode cX11_drawn 17 = .ok (.getfield 9, 3) := by decide +kernel
theorem dX11_drawn_20 : decode cX11_drawn 20 = .ok (.bipush 16, 2) := by decide +kernel
theorem dX11_drawn_22 : decode cX11_drawn 22 = .ok (.iushr, 1) := by decide +kernel
theorem dX11_drawn_23 : decode cX11_drawn 23 = .ok (.iconst 5, 1) := by decide +kernel
theorem dX11_drawn_24 : decode cX11_drawn 24 = .ok (.irem, 1) := by decide +kernel
theorem dX11_drawn_25 : decode cX11_drawn 25 = .ok (.ireturn, 1) := by decide +kernel
theorem dX11_lot_0 : decode cX11_lot 0 = .ok (.iload_n 1, 1) := by decide +kernel
theorem dX11_lot_1 : decode cX11_lot 1 = .ok (.iconst 1, 1) := by decide +kernel
theorem dX11_lot_2 : decode cX11_lot 2 = .ok (.bipush 6, 2) := by decide +kernel
theorem dX11_lot_4 : decode cX11_lot 4 = .ok (.invokestatic 89, 3) := by decide +kernel
theorem dX11_lot_7 : decode cX11_lot 7 = .ok (.ifCond .ne 5, 3) := by decide +kernel
theorem dX11_lot_10 : decode cX11_lot 10 = .ok (.iconst (-1), 1) := by decide +kernel
theorem dX11_lot_11 : decode cX11_lot 11 = .ok (.ireturn, 1) := by decide +kernel
theorem dX11_lot_12 : decode cX11_lot 12 = .ok (.iconst 0, 1) := by decide +kernel
theorem dX11_lot_13 : decode cX11_lot 13 = .ok (.istore_n 2, 1) := by decide +kernel
theorem dX11_lot_14 : decode cX11_lot 14 = .ok (.iload_n 2, 1) := by decide +kernel
theorem dX11_lot_15 : decode cX11_lot 15 = .ok (.iload_n 1, 1) := by decide +kernel
theorem dX11_lot_16 : decode cX11_lot 16 = .ok (.if_icmp .ge 54, 3) := by decide +kernel
theorem dX11_lot_19 : decode cX11_lot 19 = .ok (.aload_n 0, 1) := by decide +kernel
theorem dX11_lot_20 : decode cX11_lot 20 = .ok (.getfield 86, 3) := by decide +kernel
theorem dX11_lot_23 : decode cX11_lot 23 = .ok (.bipush 6, 2) := by decide +kernel
theorem dX11_lot_25 : decode cX11_lot 25 = .ok (.if_icmp .ge 45, 3) := by decide +kernel
theorem dX11_lot_28 : decode cX11_lot 28 = .ok (.aload_n 0, 1) := by decide +kernel
theorem dX11_lot_29 : decode cX11_lot 29 = .ok (.invokevirtual 322, 3) := by decide +kernel
theorem dX11_lot_32 : decode cX11_lot 32 = .ok (.istore_n 3, 1) := by decide +kernel
theorem dX11_lot_33 : decode cX11_lot 33 = .ok (.aload_n 0, 1) := by decide +kernel
theorem dX11_lot_34 : decode cX11_lot 34 = .ok (.invokevirtual 322, 3) := by decide +kernel
theorem dX11_lot_37 : decode cX11_lot 37 = .ok (.istore 4, 2) := by decide +kernel
theorem dX11_lot_39 : decode cX11_lot 39 = .ok (.iload_n 3, 1) := by decide +kernel
theorem dX11_lot_40 : decode cX11_lot 40 = .ok (.iload 4, 2) := by decide +kernel
theorem dX11_lot_42 : decode cX11_lot 42 = .ok (.iadd, 1) := by decide +kernel
theorem dX11_lot_43 : decode cX11_lot 43 = .ok (.ifCond .ne 12, 3) := by decide +kernel
theorem dX11_lot_46 : decode cX11_lot 46 = .ok (.aload_n 0, 1) := by decide +kernel
theorem dX11_lot_47 : decode cX11_lot 47 = .ok (.iconst 1, 1) := by decide +kernel
theorem dX11_lot_48 : decode cX11_lot 48 = .ok (.iconst 1, 1) := by decide +kernel
theorem dX11_lot_49 : decode cX11_lot 49 = .ok (.invokevirtual 101, 3) := by decide +kernel
theorem dX11_lot_52 : decode cX11_lot 52 = .ok (.goto 10, 3) := by decide +kernel
theorem dX11_lot_55 : decode cX11_lot 55 = .ok (.aload_n 0, 1) := by decide +kernel
theorem dX11_lot_56 : decode cX11_lot 56 = .ok (.iload_n 3, 1) := by decide +kernel
theorem dX11_lot_57 : decode cX11_lot 57 = .ok (.iload 4, 2) := by decide +kernel
theorem dX11_lot_59 : decode cX11_lot 59 = .ok (.invokevirtual 101, 3) := by decide +kernel
theorem dX11_lot_62 : decode cX11_lot 62 = .ok (.istore 5, 2) := by decide +kernel
theorem dX11_lot_64 : decode cX11_lot 64 = .ok (.iinc 2 1, 3) := by decide +kernel
theorem dX11_lot_67 : decode cX11_lot 67 = .ok (.goto (-53), 3) := by decide +kernel
theorem dX11_lot_70 : decode cX11_lot 70 = .ok (.iload_n 2, 1) := by decide +kernel
theorem dX11_lot_71 : decode cX11_lot 71 = .ok (.ireturn, 1) := by decide +kernel
theorem dX11_many_0 : decode cX11_many 0 = .ok (.iload_n 1, 1) := by decide +kernel
theorem dX11_many_1 : decode cX11_many 1 = .ok (.tableswitch 81 0 5 #[39, 44, 53, 58, 63, 68], 39) := by decide +kernel
theorem dX11_many_40 : decode cX11_many 40 = .ok (.aload_n 0, 1) := by decide +kernel
theorem dX11_many_41 : decode cX11_many 41 = .ok (.getfield 86, 3) := by decide +kernel
theorem dX11_many_44 : decode cX11_many 44 = .ok (.ireturn, 1) := by decide +kernel
theorem dX11_many_45 : decode cX11_many 45 = .ok (.aload_n 0, 1) := by decide +kernel
theorem dX11_many_46 : decode cX11_many 46 = .ok (.invokevirtual 228, 3) := by decide +kernel
theorem dX11_many_49 : decode cX11_many 49 = .ok (.aload_n 0, 1) := by decide +kernel
theorem dX11_many_50 : decode cX11_many 50 = .ok (.getfield 219, 3) := by decide +kernel
theorem dX11_many_53 : decode cX11_many 53 = .ok (.ireturn, 1) := by decide +kernel
theorem dX11_many_54 : decode cX11_many 54 = .ok (.aload_n 0, 1) := by decide +kernel
theorem dX11_many_55 : decode cX11_many 55 = .ok (.invokevirtual 234, 3) := by decide +kernel
theorem dX11_many_58 : decode cX11_many 58 = .ok (.ireturn, 1) := by decide +kernel
theorem dX11_many_59 : decode cX11_many 59 = .ok (.aload_n 0, 1) := by decide +kernel
theorem dX11_many_60 : decode cX11_many 60 = .ok (.getfield 93, 3) := by decide +kernel
theorem dX11_many_63 : decode cX11_many 63 = .ok (.ireturn, 1) := by decide +kernel
theorem dX11_many_64 : decode cX11_many 64 = .ok (.aload_n 0, 1) := by decide +kernel
theorem dX11_many_65 : decode cX11_many 65 = .ok (.getfield 117, 3) := by decide +kernel
theorem dX11_many_68 : decode cX11_many 68 = .ok (.ireturn, 1) := by decide +kernel
theorem dX11_many_69 : decode cX11_many 69 = .ok (.aload_n 0, 1) := by decide +kernel
theorem dX11_many_70 : decode cX11_many 70 = .ok (.invokevirtual 280, 3) := by decide +kernel
theorem dX11_many_73 : decode cX11_many 73 = .ok (.ifCond .eq 7, 3) := by decide +kernel
theorem dX11_many_76 : decode cX11_many 76 = .ok (.iconst 1, 1) := by decide +kernel
theorem dX11_many_77 : decode cX11_many 77 = .ok (.goto 4, 3) := by decide +kernel
theorem dX11_many_80 : decode cX11_many 80 = .ok (.iconst 0, 1) := by decide +kernel
theorem dX11_many_81 : decode cX11_many 81 = .ok (.ireturn, 1) := by decide +kernel
theorem dX11_many_82 : decode cX11_many 82 = .ok (.iconst (-1), 1) := by decide +kernel
theorem dX11_many_83 : decode cX11_many 83 = .ok (.ireturn, 1) := by decide +kernel
theorem dX11_keep_0 : decode cX11_keep 0 = .ok (.iconst 0, 1) := by decide +kernel
theorem dX11_keep_1 : decode cX11_keep 1 = .ok (.istore_n 1, 1) := by decide +kernel
theorem dX11_keep_2 : decode cX11_keep 2 = .ok (.iload_n 1, 1) := by decide +kernel
theorem dX11_keep_3 : decode cX11_keep 3 = .ok (.bipush 6, 2) := by decide +kernel
theorem dX11_keep_5 : decode cX11_keep 5 = .ok (.if_icmp .ge 57, 3) := by decide +kernel
theorem dX11_keep_8 : decode cX11_keep 8 = .ok (.aload_n 0, 1) := by decide +kernel
theorem dX11_keep_9 : decode cX11_keep 9 = .ok (.getfield 29, 3) := by decide +kernel
theorem dX11_keep_12 : decode cX11_keep 12 = .ok (.iload_n 1, 1) := by decide +kernel
theorem dX11_keep_13 : decode cX11_keep 13 = .ok (.aload_n 0, 1) := by decide +kernel
theorem dX11_keep_14 : decode cX11_keep 14 = .ok (.getfield 15, 3) := by decide +kernel
theorem dX11_keep_17 : decode cX11_keep 17 = .ok (.iload_n 1, 1) := by decide +kernel
theorem dX11_keep_18 : decode cX11_keep 18 = .ok (.iaload, 1) := by decide +kernel
theorem dX11_keep_19 : decode cX11_keep 19 = .ok (.iastore, 1) := by decide +kernel
theorem dX11_keep_20 : decode cX11_keep 20 = .ok (.aload_n 0, 1) := by decide +kernel
theorem dX11_keep_21 : decode cX11_keep 21 = .ok (.getfield 32, 3) := by decide +kernel
theorem dX11_keep_24 : decode cX11_keep 24 = .ok (.iload_n 1, 1) := by decide +kernel
theorem dX11_keep_25 : decode cX11_keep 25 = .ok (.aload_n 0, 1) := by decide +kernel
theorem dX11_keep_26 : decode cX11_keep 26 = .ok (.getfield 19, 3) := by decide +kernel
theorem dX11_keep_29 : decode cX11_keep 29 = .ok (.iload_n 1, 1) := by decide +kernel
theorem dX11_keep_30 : decode cX11_keep 30 = .ok (.iaload, 1) := by decide +kernel
theorem dX11_keep_31 : decode cX11_keep 31 = .ok (.iastore, 1) := by decide +kernel
theorem dX11_keep_32 : decode cX11_keep 32 = .ok (.aload_n 0, 1) := by decide +kernel
theorem dX11_keep_33 : decode cX11_keep 33 = .ok (.getfield 35, 3) := by decide +kernel
theorem dX11_keep_36 : decode cX11_keep 36 = .ok (.iload_n 1, 1) := by decide +kernel
theorem dX11_keep_37 : decode cX11_keep 37 = .ok (.aload_n 0, 1) := by decide +kernel
theorem dX11_keep_38 : decode cX11_keep 38 = .ok (.getfield 22, 3) := by decide +kernel
theorem dX11_keep_41 : decode cX11_keep 41 = .ok (.iload_n 1, 1) := by decide +kernel
theorem dX11_keep_42 : decode cX11_keep 42 = .ok (.iaload, 1) := by decide +kernel
theorem dX11_keep_43 : decode cX11_keep 43 = .ok (.iastore, 1) := by decide +kernel
theorem dX11_keep_44 : decode cX11_keep 44 = .ok (.aload_n 0, 1) := by decide +kernel
theorem dX11_keep_45 : decode cX11_keep 45 = .ok (.getfield 38, 3) := by decide +kernel
theorem dX11_keep_48 : decode cX11_keep 48 = .ok (.iload_n 1, 1) := by decide +kernel
theorem dX11_keep_49 : decode cX11_keep 49 = .ok (.aload_n 0, 1) := by decide +kernel
theorem dX11_keep_50 : decode cX11_keep 50 = .ok (.getfield 25, 3) := by decide +kernel
theorem dX11_keep_53 : decode cX11_keep 53 = .ok (.iload_n 1, 1) := by decide +kernel
theorem dX11_keep_54 : decode cX11_keep 54 = .ok (.laload, 1) := by decide +kernel
theorem dX11_keep_55 : decode cX11_keep 55 = .ok (.lastore, 1) := by decide +kernel
theorem dX11_keep_56 : decode cX11_keep 56 = .ok (.iinc 1 1, 3) := by decide +kernel
theorem dX11_keep_59 : decode cX11_keep 59 = .ok (.goto (-57), 3) := by decide +kernel
theorem dX11_keep_62 : decode cX11_keep 62 = .ok (.aload_n 0, 1) := by decide +kernel
theorem dX11_keep_63 : decode cX11_keep 63 = .ok (.aload_n 0, 1) := by decide +kernel
theorem dX11_keep_64 : decode cX11_keep 64 = .ok (.getfield 86, 3) := by decide +kernel
theorem dX11_keep_67 : decode cX11_keep 67 = .ok (.putfield 325, 3) := by decide +kernel
theorem dX11_keep_70 : decode cX11_keep 70 = .ok (.aload_n 0, 1) := by decide +kernel
theorem dX11_keep_71 : decode cX11_keep 71 = .ok (.aload_n 0, 1) := by decide +kernel
theorem dX11_keep_72 : decode cX11_keep 72 = .ok (.getfield 9, 3) := by decide +kernel
theorem dX11_keep_75 : decode cX11_keep 75 = .ok (.putfield 328, 3) := by decide +kernel
theorem dX11_keep_78 : decode cX11_keep 78 = .ok (.aload_n 0, 1) := by decide +kernel
theorem dX11_keep_79 : decode cX11_keep 79 = .ok (.iconst 1, 1) := by decide +kernel
theorem dX11_keep_80 : decode cX11_keep 80 = .ok (.putfield 331, 3) := by decide +kernel
theorem dX11_keep_83 : decode cX11_keep 83 = .ok (.iconst 1, 1) := by decide +kernel
theorem dX11_keep_84 : decode cX11_keep 84 = .ok (.ireturn, 1) := by decide +kernel
theorem dX11_again_0 : decode cX11_again 0 = .ok (.aload_n 0, 1) := by decide +kernel
theorem dX11_again_1 : decode cX11_again 1 = .ok (.getfield 331, 3) := by decide +kernel
theorem dX11_again_4 : decode cX11_again 4 = .ok (.ifCond .ne 6, 3) := by decide +kernel
theorem dX11_again_7 : decode cX11_again 7 = .ok (.bipush (-3), 2) := by decide +kernel
theorem dX11_again_9 : decode cX11_again 9 = .ok (.ireturn, 1) := by decide +kernel
theorem dX11_again_10 : decode cX11_again 10 = .ok (.iconst 0, 1) := by decide +kernel
theorem dX11_again_11 : decode cX11_again 11 = .ok (.istore_n 1, 1) := by decide +kernel
theorem dX11_again_12 : decode cX11_again 12 = .ok (.iload_n 1, 1) := by decide +kernel
theorem dX11_again_13 : decode cX11_again 13 = .ok (.bipush 6, 2) := by decide +kernel
theorem dX11_again_15 : decode cX11_again 15 = .ok (.if_icmp .ge 57, 3) := by decide +kernel
theorem dX11_again_18 : decode cX11_again 18 = .ok (.aload_n 0, 1) := by decide +kernel
theorem dX11_again_19 : decode cX11_again 19 = .ok (.getfield 15, 3) := by decide +kernel
theorem dX11_again_22 : decode cX11_again 22 = .ok (.iload_n 1, 1) := by decide +kernel
theorem dX11_again_23 : decode cX11_again 23 = .ok (.aload_n 0, 1) := by decide +kernel
theorem dX11_again_24 : decode cX11_again 24 = .ok (.getfield 29, 3) := by decide +kernel
theorem dX11_again_27 : decode cX11_again 27 = .ok (.iload_n 1, 1) := by decide +kernel
theorem dX11_again_28 : decode cX11_again 28 = .ok (.iaload, 1) := by decide +kernel
theorem dX11_again_29 : decode cX11_again 29 = .ok (.iastore, 1) := by decide +kernel
theorem dX11_again_30 : decode cX11_again 30 = .ok (.aload_n 0, 1) := by decide +kernel
theorem dX11_again_31 : decode cX11_again 31 = .ok (.getfield 19, 3) := by decide +kernel
theorem dX11_again_34 : decode cX11_again 34 = .ok (.iload_n 1, 1) := by decide +kernel
theorem dX11_again_35 : decode cX11_again 35 = .ok (.aload_n 0, 1) := by decide +kernel
theorem dX11_again_36 : decode cX11_again 36 = .ok (.getfield 32, 3) := by decide +kernel
theorem dX11_again_39 : decode cX11_again 39 = .ok (.iload_n 1, 1) := by decide +kernel
theorem dX11_again_40 : decode cX11_again 40 = .ok (.iaload, 1) := by decide +kernel
theorem dX11_again_41 : decode cX11_again 41 = .ok (.iastore, 1) := by decide +kernel
theorem dX11_again_42 : decode cX11_again 42 = .ok (.aload_n 0, 1) := by decide +kernel
theorem dX11_again_43 : decode cX11_again 43 = .ok (.getfield 22, 3) := by decide +kernel
theorem dX11_again_46 : decode cX11_again 46 = .ok (.iload_n 1, 1) := by decide +kernel
theorem dX11_again_47 : decode cX11_again 47 = .ok (.aload_n 0, 1) := by decide +kernel
theorem dX11_again_48 : decode cX11_again 48 = .ok (.getfield 35, 3) := by decide +kernel
theorem dX11_again_51 : decode cX11_again 51 = .ok (.iload_n 1, 1) := by decide +kernel
theorem dX11_again_52 : decode cX11_again 52 = .ok (.iaload, 1) := by decide +kernel
theorem dX11_again_53 : decode cX11_again 53 = .ok (.iastore, 1) := by decide +kernel
theorem dX11_again_54 : decode cX11_again 54 = .ok (.aload_n 0, 1) := by decide +kernel
theorem dX11_again_55 : decode cX11_again 55 = .ok (.getfield 25, 3) := by decide +kernel
theorem dX11_again_58 : decode cX11_again 58 = .ok (.iload_n 1, 1) := by decide +kernel
theorem dX11_again_59 : decode cX11_again 59 = .ok (.aload_n 0, 1) := by decide +kernel
theorem dX11_again_60 : decode cX11_again 60 = .ok (.getfield 38, 3) := by decide +kernel
theorem dX11_again_63 : decode cX11_again 63 = .ok (.iload_n 1, 1) := by decide +kernel
theorem dX11_again_64 : decode cX11_again 64 = .ok (.laload, 1) := by decide +kernel
theorem dX11_again_65 : decode cX11_again 65 = .ok (.lastore, 1) := by decide +kernel
theorem dX11_again_66 : decode cX11_again 66 = .ok (.iinc 1 1, 3) := by decide +kernel
theorem dX11_again_69 : decode cX11_again 69 = .ok (.goto (-57), 3) := by decide +kernel
theorem dX11_again_72 : decode cX11_again 72 = .ok (.aload_n 0, 1) := by decide +kernel
theorem dX11_again_73 : decode cX11_again 73 = .ok (.aload_n 0, 1) := by decide +kernel
theorem dX11_again_74 : decode cX11_again 74 = .ok (.getfield 325, 3) := by decide +kernel
theorem dX11_again_77 : decode cX11_again 77 = .ok (.putfield 86, 3) := by decide +kernel
theorem dX11_again_80 : decode cX11_again 80 = .ok (.aload_n 0, 1) := by decide +kernel
theorem dX11_again_81 : decode cX11_again 81 = .ok (.aload_n 0, 1) := by decide +kernel
theorem dX11_again_82 : decode cX11_again 82 = .ok (.getfield 328, 3) := by decide +kernel
theorem dX11_again_85 : decode cX11_again 85 = .ok (.putfield 9, 3) := by decide +kernel
theorem dX11_again_88 : decode cX11_again 88 = .ok (.aload_n 0, 1) := by decide +kernel
theorem dX11_again_89 : decode cX11_again 89 = .ok (.iconst 0, 1) := by decide +kernel
theorem dX11_again_90 : decode cX11_again 90 = .ok (.putfield 93, 3) := by decide +kernel
theorem dX11_again_93 : decode cX11_again 93 = .ok (.aload_n 0, 1) := by decide +kernel
theorem dX11_again_94 : decode cX11_again 94 = .ok (.getfield 86, 3) := by decide +kernel
theorem dX11_again_97 : decode cX11_again 97 = .ok (.ireturn, 1) := by decide +kernel
theorem dJ13_bitCount_95d88_0 : decode cJ13_bitCount_95d88 0 = .ok (.lload_n 0, 1) := by decide +kernel
theorem dJ13_bitCount_95d88_1 : decode cJ13_bitCount_95d88 1 = .ok (.lload_n 0, 1) := by decide +kernel
theorem dJ13_bitCount_95d88_2 : decode cJ13_bitCount_95d88 2 = .ok (.iconst 1, 1) := by decide +kernel
theorem dJ13_bitCount_95d88_3 : decode cJ13_bitCount_95d88 3 = .ok (.lushr, 1) := by decide +kernel
theorem dJ13_bitCount_95d88_4 : decode cJ13_bitCount_95d88 4 = .ok (.ldc2_w 314, 3) := by decide +kernel
theorem dJ13_bitCount_95d88_7 : decode cJ13_bitCount_95d88 7 = .ok (.land, 1) := by decide +kernel
theorem dJ13_bitCount_95d88_8 : decode cJ13_bitCount_95d88 8 = .ok (.lsub, 1) := by decide +kernel
theorem dJ13_bitCount_95d88_9 : decode cJ13_bitCount_95d88 9 = .ok (.lstore_n 0, 1) := by decide +kernel
theorem dJ13_bitCount_95d88_10 : decode cJ13_bitCount_95d88 10 = .ok (.lload_n 0, 1) := by decide +kernel
theorem dJ13_bitCount_95d88_11 : decode cJ13_bitCount_95d88 11 = .ok (.ldc2_w 316, 3) := by decide +kernel
theorem dJ13_bitCount_95d88_14 : decode cJ13_bitCount_95d88 14 = .ok (.land, 1) := by decide +kernel
theorem dJ13_bitCount_95d88_15 : decode cJ13_bitCount_95d88 15 = .ok (.lload_n 0, 1) := by decide +kernel
theorem dJ13_bitCount_95d88_16 : decode cJ13_bitCount_95d88 16 = .ok (.iconst 2, 1) := by decide +kernel
theorem dJ13_bitCount_95d88_17 : decode cJ13_bitCount_95d88 17 = .ok (.lushr, 1) := by decide +kernel
theorem dJ13_bitCount_95d88_18 : decode cJ13_bitCount_95d88 18 = .ok (.ldc2_w 316, 3) := by decide +kernel
theorem dJ13_bitCount_95d88_21 : decode cJ13_bitCount_95d88 21 = .ok (.land, 1) := by decide +kernel
theorem dJ13_bitCount_95d88_22 : decode cJ13_bitCount_95d88 22 = .ok (.ladd, 1) := by decide +kernel
theorem dJ13_bitCount_95d88_23 : decode cJ13_bitCount_95d88 23 = .ok (.lstore_n 0, 1) := by decide +kernel
theorem dJ13_bitCount_95d88_24 : decode cJ13_bitCount_95d88 24 = .ok (.lload_n 0, 1) := by decide +kernel
theorem dJ13_bitCount_95d88_25 : decode cJ13_bitCount_95d88 25 = .ok (.lload_n 0, 1) := by decide +kernel
theorem dJ13_bitCount_95d88_26 : decode cJ13_bitCount_95d88 26 = .ok (.iconst 4, 1) := by decide +kernel
theorem dJ13_bitCount_95d88_27 : decode cJ13_bitCount_95d88 27 = .ok (.lushr, 1) := by decide +kernel
theorem dJ13_bitCount_95d88_28 : decode cJ13_bitCount_95d88 28 = .ok (.ladd, 1) := by decide +kernel
theorem dJ13_bitCount_95d88_29 : decode cJ13_bitCount_95d88 29 = .ok (.ldc2_w 318, 3) := by decide +kernel
theorem dJ13_bitCount_95d88_32 : decode cJ13_bitCount_95d88 32 = .ok (.land, 1) := by decide +kernel
theorem dJ13_bitCount_95d88_33 : decode cJ13_bitCount_95d88 33 = .ok (.lstore_n 0, 1) := by decide +kernel
theorem dJ13_bitCount_95d88_34 : decode cJ13_bitCount_95d88 34 = .ok (.lload_n 0, 1) := by decide +kernel
theorem dJ13_bitCount_95d88_35 : decode cJ13_bitCount_95d88 35 = .ok (.lload_n 0, 1) := by decide +kernel
theorem dJ13_bitCount_95d88_36 : decode cJ13_bitCount_95d88 36 = .ok (.bipush 8, 2) := by decide +kernel
theorem dJ13_bitCount_95d88_38 : decode cJ13_bitCount_95d88 38 = .ok (.lushr, 1) := by decide +kernel
theorem dJ13_bitCount_95d88_39 : decode cJ13_bitCount_95d88 39 = .ok (.ladd, 1) := by decide +kernel
theorem dJ13_bitCount_95d88_40 : decode cJ13_bitCount_95d88 40 = .ok (.lstore_n 0, 1) := by decide +kernel
theorem dJ13_bitCount_95d88_41 : decode cJ13_bitCount_95d88 41 = .ok (.lload_n 0, 1) := by decide +kernel
theorem dJ13_bitCount_95d88_42 : decode cJ13_bitCount_95d88 42 = .ok (.lload_n 0, 1) := by decide +kernel
theorem dJ13_bitCount_95d88_43 : decode cJ13_bitCount_95d88 43 = .ok (.bipush 16, 2) := by decide +kernel
theorem dJ13_bitCount_95d88_45 : decode cJ13_bitCount_95d88 45 = .ok (.lushr, 1) := by decide +kernel
theorem dJ13_bitCount_95d88_46 : decode cJ13_bitCount_95d88 46 = .ok (.ladd, 1) := by decide +kernel
theorem dJ13_bitCount_95d88_47 : decode cJ13_bitCount_95d88 47 = .ok (.lstore_n 0, 1) := by decide +kernel
theorem dJ13_bitCount_95d88_48 : decode cJ13_bitCount_95d88 48 = .ok (.lload_n 0, 1) := by decide +kernel
theorem dJ13_bitCount_95d88_49 : decode cJ13_bitCount_95d88 49 = .ok (.lload_n 0, 1) := by decide +kernel
theorem dJ13_bitCount_95d88_50 : decode cJ13_bitCount_95d88 50 = .ok (.bipush 32, 2) := by decide +kernel
theorem dJ13_bitCount_95d88_52 : decode cJ13_bitCount_95d88 52 = .ok (.lushr, 1) := by decide +kernel
theorem dJ13_bitCount_95d88_53 : decode cJ13_bitCount_95d88 53 = .ok (.ladd, 1) := by decide +kernel
theorem dJ13_bitCount_95d88_54 : decode cJ13_bitCount_95d88 54 = .ok (.lstore_n 0, 1) := by decide +kernel
theorem dJ13_bitCount_95d88_55 : decode cJ13_bitCount_95d88 55 = .ok (.lload_n 0, 1) := by decide +kernel
theorem dJ13_bitCount_95d88_56 : decode cJ13_bitCount_95d88 56 = .ok (.l2i, 1) := by decide +kernel
theorem dJ13_bitCount_95d88_57 : decode cJ13_bitCount_95d88 57 = .ok (.bipush 127, 2) := by decide +kernel
theorem dJ13_bitCount_95d88_59 : decode cJ13_bitCount_95d88 59 = .ok (.iand, 1) := by decide +kernel
theorem dJ13_bitCount_95d88_60 : decode cJ13_bitCount_95d88 60 = .ok (.ireturn, 1) := by decide +kernel
theorem dJ9_floorDiv_7cf53_0 : decode cJ9_floorDiv_7cf53 0 = .ok (.iload_n 0, 1) := by decide +kernel
theorem dJ9_floorDiv_7cf53_1 : decode cJ9_floorDiv_7cf53 1 = .ok (.iload_n 1, 1) := by decide +kernel
theorem dJ9_floorDiv_7cf53_2 : decode cJ9_floorDiv_7cf53 2 = .ok (.idiv, 1) := by decide +kernel
theorem dJ9_floorDiv_7cf53_3 : decode cJ9_floorDiv_7cf53 3 = .ok (.istore_n 2, 1) := by decide +kernel
theorem dJ9_floorDiv_7cf53_4 : decode cJ9_floorDiv_7cf53 4 = .ok (.iload_n 0, 1) := by decide +kernel
theorem dJ9_floorDiv_7cf53_5 : decode cJ9_floorDiv_7cf53 5 = .ok (.iload_n 1, 1) := by decide +kernel
theorem dJ9_floorDiv_7cf53_6 : decode cJ9_floorDiv_7cf53 6 = .ok (.ixor, 1) := by decide +kernel
theorem dJ9_floorDiv_7cf53_7 : decode cJ9_floorDiv_7cf53 7 = .ok (.ifCond .ge 14, 3) := by decide +kernel
theorem dJ9_floorDiv_7cf53_10 : decode cJ9_floorDiv_7cf53 10 = .ok (.iload_n 2, 1) := by decide +kernel
theorem dJ9_floorDiv_7cf53_11 : decode cJ9_floorDiv_7cf53 11 = .ok (.iload_n 1, 1) := by decide +kernel
theorem dJ9_floorDiv_7cf53_12 : decode cJ9_floorDiv_7cf53 12 = .ok (.imul, 1) := by decide +kernel
theorem dJ9_floorDiv_7cf53_13 : decode cJ9_floorDiv_7cf53 13 = .ok (.iload_n 0, 1) := by decide +kernel
theorem dJ9_floorDiv_7cf53_14 : decode cJ9_floorDiv_7cf53 14 = .ok (.if_icmp .eq 7, 3) := by decide +kernel
theorem dJ9_floorDiv_7cf53_17 : decode cJ9_floorDiv_7cf53 17 = .ok (.iload_n 2, 1) := by decide +kernel
theorem dJ9_floorDiv_7cf53_18 : decode cJ9_floorDiv_7cf53 18 = .ok (.iconst 1, 1) := by decide +kernel
theorem dJ9_floorDiv_7cf53_19 : decode cJ9_floorDiv_7cf53 19 = .ok (.isub, 1) := by decide +kernel
theorem dJ9_floorDiv_7cf53_20 : decode cJ9_floorDiv_7cf53 20 = .ok (.ireturn, 1) := by decide +kernel
theorem dJ9_floorDiv_7cf53_21 : decode cJ9_floorDiv_7cf53 21 = .ok (.iload_n 2, 1) := by decide +kernel
theorem dJ9_floorDiv_7cf53_22 : decode cJ9_floorDiv_7cf53 22 = .ok (.ireturn, 1) := by decide +kernel
theorem dJ9_abs_0f7a4_0 : decode cJ9_abs_0f7a4 0 = .ok (.iload_n 0, 1) := by decide +kernel
theorem dJ9_abs_0f7a4_1 : decode cJ9_abs_0f7a4 1 = .ok (.ifCond .ge 8, 3) := by decide +kernel
theorem dJ9_abs_0f7a4_4 : decode cJ9_abs_0f7a4 4 = .ok (.iload_n 0, 1) := by decide +kernel
theorem dJ9_abs_0f7a4_5 : decode cJ9_abs_0f7a4 5 = .ok (.ineg, 1) := by decide +kernel
theorem dJ9_abs_0f7a4_6 : decode cJ9_abs_0f7a4 6 = .ok (.goto 4, 3) := by decide +kernel
theorem dJ9_abs_0f7a4_9 : decode cJ9_abs_0f7a4 9 = .ok (.iload_n 0, 1) := by decide +kernel
theorem dJ9_abs_0f7a4_10 : decode cJ9_abs_0f7a4 10 = .ok (.ireturn, 1) := by decide +kernel
theorem dJ9_max_7cf53_0 : decode cJ9_max_7cf53 0 = .ok (.iload_n 0, 1) := by decide +kernel
theorem dJ9_max_7cf53_1 : decode cJ9_max_7cf53 1 = .ok (.iload_n 1, 1) := by decide +kernel
theorem dJ9_max_7cf53_2 : decode cJ9_max_7cf53 2 = .ok (.if_icmp .lt 7, 3) := by decide +kernel
theorem dJ9_max_7cf53_5 : decode cJ9_max_7cf53 5 = .ok (.iload_n 0, 1) := by decide +kernel
theorem dJ9_max_7cf53_6 : decode cJ9_max_7cf53 6 = .ok (.goto 4, 3) := by decide +kernel
theorem dJ9_max_7cf53_9 : decode cJ9_max_7cf53 9 = .ok (.iload_n 1, 1) := by decide +kernel
theorem dJ9_max_7cf53_10 : decode cJ9_max_7cf53 10 = .ok (.ireturn, 1) := by decide +kernel
theorem dJ9_max_f86c9_0 : decode cJ9_max_f86c9 0 = .ok (.lload_n 0, 1) := by decide +kernel
theorem dJ9_max_f86c9_1 : decode cJ9_max_f86c9 1 = .ok (.lload_n 2, 1) := by decide +kernel
theorem dJ9_max_f86c9_2 : decode cJ9_max_f86c9 2 = .ok (.lcmp, 1) := by decide +kernel
theorem dJ9_max_f86c9_3 : decode cJ9_max_f86c9 3 = .ok (.ifCond .lt 7, 3) := by decide +kernel
theorem dJ9_max_f86c9_6 : decode cJ9_max_f86c9 6 = .ok (.lload_n 0, 1) := by decide +kernel
theorem dJ9_max_f86c9_7 : decode cJ9_max_f86c9 7 = .ok (.goto 4, 3) := by decide +kernel
theorem dJ9_max_f86c9_10 : decode cJ9_max_f86c9 10 = .ok (.lload_n 2, 1) := by decide +kernel
theorem dJ9_max_f86c9_11 : decode cJ9_max_f86c9 11 = .ok (.lreturn, 1) := by decide +kernel
theorem dJ9_min_7cf53_0 : decode cJ9_min_7cf53 0 = .ok (.iload_n 0, 1) := by decide +kernel
theorem dJ9_min_7cf53_1 : decode cJ9_min_7cf53 1 = .ok (.iload_n 1, 1) := by decide +kernel
theorem dJ9_min_7cf53_2 : decode cJ9_min_7cf53 2 = .ok (.if_icmp .gt 7, 3) := by decide +kernel
theorem dJ9_min_7cf53_5 : decode cJ9_min_7cf53 5 = .ok (.iload_n 0, 1) := by decide +kernel
theorem dJ9_min_7cf53_6 : decode cJ9_min_7cf53 6 = .ok (.goto 4, 3) := by decide +kernel
theorem dJ9_min_7cf53_9 : decode cJ9_min_7cf53 9 = .ok (.iload_n 1, 1) := by decide +kernel
theorem dJ9_min_7cf53_10 : decode cJ9_min_7cf53 10 = .ok (.ireturn, 1) := by decide +kernel
theorem dJ9_min_f86c9_0 : decode cJ9_min_f86c9 0 = .ok (.lload_n 0, 1) := by decide +kernel
theorem dJ9_min_f86c9_1 : decode cJ9_min_f86c9 1 = .ok (.lload_n 2, 1) := by decide +kernel
theorem dJ9_min_f86c9_2 : decode cJ9_min_f86c9 2 = .ok (.lcmp, 1) := by decide +kernel
theorem dJ9_min_f86c9_3 : decode cJ9_min_f86c9 3 = .ok (.ifCond .gt 7, 3) := by decide +kernel
theorem dJ9_min_f86c9_6 : decode cJ9_min_f86c9 6 = .ok (.lload_n 0, 1) := by decide +kernel
theorem dJ9_min_f86c9_7 : decode cJ9_min_f86c9 7 = .ok (.goto 4, 3) := by decide +kernel
theorem dJ9_min_f86c9_10 : decode cJ9_min_f86c9 10 = .ok (.lload_n 2, 1) := by decide +kernel
theorem dJ9_min_f86c9_11 : decode cJ9_min_f86c9 11 = .ok (.lreturn, 1) := by decide +kernel
theorem dJ0_length_8abf5_0 : decode cJ0_length_8abf5 0 = .ok (.aload_n 0, 1) := by decide +kernel
theorem dJ0_length_8abf5_1 : decode cJ0_length_8abf5 1 = .ok (.getfield 9, 3) := by decide +kernel
theorem dJ0_length_8abf5_4 : decode cJ0_length_8abf5 4 = .ok (.arraylength, 1) := by decide +kernel
theorem dJ0_length_8abf5_5 : decode cJ0_length_8abf5 5 = .ok (.aload_n 0, 1) := by decide +kernel
theorem dJ0_length_8abf5_6 : decode cJ0_length_8abf5 6 = .ok (.invokevirtual 335, 3) := by decide +kernel
theorem dJ0_length_8abf5_9 : decode cJ0_length_8abf5 9 = .ok (.ishr, 1) := by decide +kernel
theorem dJ0_length_8abf5_10 : decode cJ0_length_8abf5 10 = .ok (.ireturn, 1) := by decide +kernel
theorem dJ0_charAt_5068e_0 : decode cJ0_charAt_5068e 0 = .ok (.aload_n 0, 1) := by decide +kernel
theorem dJ0_charAt_5068e_1 : decode cJ0_charAt_5068e 1 = .ok (.invokevirtual 492, 3) := by decide +kernel
theorem dJ0_charAt_5068e_4 : decode cJ0_charAt_5068e 4 = .ok (.ifCond .eq 12, 3) := by decide +kernel
theorem dJ0_charAt_5068e_7 : decode cJ0_charAt_5068e 7 = .ok (.aload_n 0, 1) := by decide +kernel
theorem dJ0_charAt_5068e_8 : decode cJ0_charAt_5068e 8 = .ok (.getfield 9, 3) := by decide +kernel
theorem dJ0_charAt_5068e_11 : decode cJ0_charAt_5068e 11 = .ok (.iload_n 1, 1) := by decide +kernel
theorem dJ0_charAt_5068e_12 : decode cJ0_charAt_5068e 12 = .ok (.invokestatic 495, 3) := by decide +kernel
theorem dJ0_charAt_5068e_15 : decode cJ0_charAt_5068e 15 = .ok (.ireturn, 1) := by decide +kernel
theorem dJ0_charAt_5068e_16 : decode cJ0_charAt_5068e 16 = .ok (.aload_n 0, 1) := by decide +kernel
theorem dJ0_charAt_5068e_17 : decode cJ0_charAt_5068e 17 = .ok (.getfield 9, 3) := by decide +kernel
theorem dJ0_charAt_5068e_20 : decode cJ0_charAt_5068e 20 = .ok (.iload_n 1, 1) := by decide +kernel
theorem dJ0_charAt_5068e_21 : decode cJ0_charAt_5068e 21 = .ok (.invokestatic 498, 3) := by decide +kernel
theorem dJ0_charAt_5068e_24 : decode cJ0_charAt_5068e 24 = .ok (.ireturn, 1) := by decide +kernel
theorem dJ0_coder_7d493_0 : decode cJ0_coder_7d493 0 = .ok (.getstatic 38, 3) := by decide +kernel
theorem dJ0_coder_7d493_3 : decode cJ0_coder_7d493 3 = .ok (.ifCond .eq 10, 3) := by decide +kernel
theorem dJ0_coder_7d493_6 : decode cJ0_coder_7d493 6 = .ok (.aload_n 0, 1) := by decide +kernel
theorem dJ0_coder_7d493_7 : decode cJ0_coder_7d493 7 = .ok (.getfield 15, 3) := by decide +kernel
theorem dJ0_coder_7d493_10 : decode cJ0_coder_7d493 10 = .ok (.goto 4, 3) := by decide +kernel
theorem dJ0_coder_7d493_13 : decode cJ0_coder_7d493 13 = .ok (.iconst 1, 1) := by decide +kernel
theorem dJ0_coder_7d493_14 : decode cJ0_coder_7d493 14 = .ok (.ireturn, 1) := by decide +kernel
theorem dJ0_isLatin1_aae02_0 : decode cJ0_isLatin1_aae02 0 = .ok (.getstatic 38, 3) := by decide +kernel
theorem dJ0_isLatin1_aae02_3 : decode cJ0_isLatin1_aae02 3 = .ok (.ifCond .eq 14, 3) := by decide +kernel
theorem dJ0_isLatin1_aae02_6 : decode cJ0_isLatin1_aae02 6 = .ok (.aload_n 0, 1) := by decide +kernel
theorem dJ0_isLatin1_aae02_7 : decode cJ0_isLatin1_aae02 7 = .ok (.getfield 15, 3) := by decide +kernel
theorem dJ0_isLatin1_aae02_10 : decode cJ0_isLatin1_aae02 10 = .ok (.ifCond .ne 7, 3) := by decide +kernel
theorem dJ0_isLatin1_aae02_13 : decode cJ0_isLatin1_aae02 13 = .ok (.iconst 1, 1) := by decide +kernel
theorem dJ0_isLatin1_aae02_14 : decode cJ0_isLatin1_aae02 14 = .ok (.goto 4, 3) := by decide +kernel
theorem dJ0_isLatin1_aae02_17 : decode cJ0_isLatin1_aae02 17 = .ok (.iconst 0, 1) := by decide +kernel
theorem dJ0_isLatin1_aae02_18 : decode cJ0_isLatin1_aae02 18 = .ok (.ireturn, 1) := by decide +kernel
theorem dJ0_checkIndex_df160_0 : decode cJ0_checkIndex_df160 0 = .ok (.iload_n 0, 1) := by decide +kernel
theorem dJ0_checkIndex_df160_1 : decode cJ0_checkIndex_df160 1 = .ok (.iload_n 1, 1) := by decide +kernel
theorem dJ0_checkIndex_df160_2 : decode cJ0_checkIndex_df160 2 = .ok (.getstatic 1053, 3) := by decide +kernel
theorem dJ0_checkIndex_df160_5 : decode cJ0_checkIndex_df160 5 = .ok (.invokestatic 1059, 3) := by decide +kernel
theorem dJ0_checkIndex_df160_8 : decode cJ0_checkIndex_df160 8 = .ok (.pop, 1) := by decide +kernel
theorem dJ0_checkIndex_df160_9 : decode cJ0_checkIndex_df160 9 = .ok (.return_, 1) := by decide +kernel
theorem dJ1_charAt_3b067_0 : decode cJ1_charAt_3b067 0 = .ok (.iload_n 1, 1) := by decide +kernel
theorem dJ1_charAt_3b067_1 : decode cJ1_charAt_3b067 1 = .ok (.aload_n 0, 1) := by decide +kernel
theorem dJ1_charAt_3b067_2 : decode cJ1_charAt_3b067 2 = .ok (.arraylength, 1) := by decide +kernel
theorem dJ1_charAt_3b067_3 : decode cJ1_charAt_3b067 3 = .ok (.invokestatic 9, 3) := by decide +kernel
theorem dJ1_charAt_3b067_6 : decode cJ1_charAt_3b067 6 = .ok (.aload_n 0, 1) := by decide +kernel
theorem dJ1_charAt_3b067_7 : decode cJ1_charAt_3b067 7 = .ok (.iload_n 1, 1) := by decide +kernel
theorem dJ1_charAt_3b067_8 : decode cJ1_charAt_3b067 8 = .ok (.baload, 1) := by decide +kernel
theorem dJ1_charAt_3b067_9 : decode cJ1_charAt_3b067 9 = .ok (.sipush 255, 3) := by decide +kernel
theorem dJ1_charAt_3b067_12 : decode cJ1_charAt_3b067 12 = .ok (.iand, 1) := by decide +kernel
theorem dJ1_charAt_3b067_13 : decode cJ1_charAt_3b067 13 = .ok (.i2c, 1) := by decide +kernel
theorem dJ1_charAt_3b067_14 : decode cJ1_charAt_3b067 14 = .ok (.ireturn, 1) := by decide +kernel
theorem dJ2_getChar_3b067_0 : decode cJ2_getChar_3b067 0 = .ok (.getstatic 44, 3) := by decide +kernel
theorem dJ2_getChar_3b067_3 : decode cJ2_getChar_3b067 3 = .ok (.ifCond .ne 25, 3) := by decide +kernel
theorem dJ2_getChar_3b067_6 : decode cJ2_getChar_3b067 6 = .ok (.iload_n 1, 1) := by decide +kernel
theorem dJ2_getChar_3b067_7 : decode cJ2_getChar_3b067 7 = .ok (.ifCond .lt 11, 3) := by decide +kernel
theorem dJ2_getChar_3b067_10 : decode cJ2_getChar_3b067 10 = .ok (.iload_n 1, 1) := by decide +kernel
theorem dJ2_getChar_3b067_11 : decode cJ2_getChar_3b067 11 = .ok (.aload_n 0, 1) := by decide +kernel
theorem dJ2_getChar_3b067_12 : decode cJ2_getChar_3b067 12 = .ok (.invokestatic 48, 3) := by decide +kernel
theorem dJ2_getChar_3b067_15 : decode cJ2_getChar_3b067 15 = .ok (.if_icmp .lt 13, 3) := by decide +kernel
theorem dJ2_getChar_3b067_18 : decode cJ2_getChar_3b067 18 = .ok (.new 52, 3) := by decide +kernel
theorem dJ2_getChar_3b067_21 : decode cJ2_getChar_3b067 21 = .ok (.dup, 1) := by decide +kernel
theorem dJ2_getChar_3b067_22 : decode cJ2_getChar_3b067 22 = .ok (.ldc 54, 2) := by decide +kernel
theorem dJ2_getChar_3b067_24 : decode cJ2_getChar_3b067 24 = .ok (.invokespecial 56, 3) := by decide +kernel
theorem dJ2_getChar_3b067_27 : decode cJ2_getChar_3b067 27 = .ok (.athrow, 1) := by decide +kernel
theorem dJ2_getChar_3b067_28 : decode cJ2_getChar_3b067 28 = .ok (.iload_n 1, 1) := by decide +kernel
theorem dJ2_getChar_3b067_29 : decode cJ2_getChar_3b067 29 = .ok (.iconst 1, 1) := by decide +kernel
theorem dJ2_getChar_3b067_30 : decode cJ2_getChar_3b067 30 = .ok (.ishl, 1) := by decide +kernel
theorem dJ2_getChar_3b067_31 : decode cJ2_getChar_3b067 31 = .ok (.istore_n 1, 1) := by decide +kernel
theorem dJ2_getChar_3b067_32 : decode cJ2_getChar_3b067 32 = .ok (.aload_n 0, 1) := by decide +kernel
theorem dJ2_getChar_3b067_33 : decode cJ2_getChar_3b067 33 = .ok (.iload_n 1, 1) := by decide +kernel
theorem dJ2_getChar_3b067_34 : decode cJ2_getChar_3b067 34 = .ok (.iinc 1 1, 3) := by decide +kernel
theorem dJ2_getChar_3b067_37 : decode cJ2_getChar_3b067 37 = .ok (.baload, 1) := by decide +kernel
theorem dJ2_getChar_3b067_38 : decode cJ2_getChar_3b067 38 = .ok (.sipush 255, 3) := by decide +kernel
theorem dJ2_getChar_3b067_41 : decode cJ2_getChar_3b067 41 = .ok (.iand, 1) := by decide +kernel
theorem dJ2_getChar_3b067_42 : decode cJ2_getChar_3b067 42 = .ok (.getstatic 59, 3) := by decide +kernel
theorem dJ2_getChar_3b067_45 : decode cJ2_getChar_3b067 45 = .ok (.ishl, 1) := by decide +kernel
theorem dJ2_getChar_3b067_46 : decode cJ2_getChar_3b067 46 = .ok (.aload_n 0, 1) := by decide +kernel
theorem dJ2_getChar_3b067_47 : decode cJ2_getChar_3b067 47 = .ok (.iload_n 1, 1) := by decide +kernel
theorem dJ2_getChar_3b067_48 : decode cJ2_getChar_3b067 48 = .ok (.baload, 1) := by decide +kernel
theorem dJ2_getChar_3b067_49 : decode cJ2_getChar_3b067 49 = .ok (.sipush 255, 3) := by decide +kernel
theorem dJ2_getChar_3b067_52 : decode cJ2_getChar_3b067 52 = .ok (.iand, 1) := by decide +kernel
theorem dJ2_getChar_3b067_53 : decode cJ2_getChar_3b067 53 = .ok (.getstatic 63, 3) := by decide +kernel
theorem dJ2_getChar_3b067_56 : decode cJ2_getChar_3b067 56 = .ok (.ishl, 1) := by decide +kernel
theorem dJ2_getChar_3b067_57 : decode cJ2_getChar_3b067 57 = .ok (.ior, 1) := by decide +kernel
theorem dJ2_getChar_3b067_58 : decode cJ2_getChar_3b067 58 = .ok (.i2c, 1) := by decide +kernel
theorem dJ2_getChar_3b067_59 : decode cJ2_getChar_3b067 59 = .ok (.ireturn, 1) := by decide +kernel
theorem dJ2_length_9d52b_0 : decode cJ2_length_9d52b 0 = .ok (.aload_n 0, 1) := by decide +kernel
theorem dJ2_length_9d52b_1 : decode cJ2_length_9d52b 1 = .ok (.arraylength, 1) := by decide +kernel
theorem dJ2_length_9d52b_2 : decode cJ2_length_9d52b 2 = .ok (.iconst 1, 1) := by decide +kernel
theorem dJ2_length_9d52b_3 : decode cJ2_length_9d52b 3 = .ok (.ishr, 1) := by decide +kernel
theorem dJ2_length_9d52b_4 : decode cJ2_length_9d52b 4 = .ok (.ireturn, 1) := by decide +kernel
theorem dJ2_charAt_3b067_0 : decode cJ2_charAt_3b067 0 = .ok (.iload_n 1, 1) := by decide +kernel
theorem dJ2_charAt_3b067_1 : decode cJ2_charAt_3b067 1 = .ok (.aload_n 0, 1) := by decide +kernel
theorem dJ2_charAt_3b067_2 : decode cJ2_charAt_3b067 2 = .ok (.invokestatic 67, 3) := by decide +kernel
theorem dJ2_charAt_3b067_5 : decode cJ2_charAt_3b067 5 = .ok (.aload_n 0, 1) := by decide +kernel
theorem dJ2_charAt_3b067_6 : decode cJ2_charAt_3b067 6 = .ok (.iload_n 1, 1) := by decide +kernel
theorem dJ2_charAt_3b067_7 : decode cJ2_charAt_3b067 7 = .ok (.invokestatic 71, 3) := by decide +kernel
theorem dJ2_charAt_3b067_10 : decode cJ2_charAt_3b067 10 = .ok (.ireturn, 1) := by decide +kernel
theorem dJ2_checkIndex_2214a_0 : decode cJ2_checkIndex_2214a 0 = .ok (.iload_n 0, 1) := by decide +kernel
theorem dJ2_checkIndex_2214a_1 : decode cJ2_checkIndex_2214a 1 = .ok (.aload_n 1, 1) := by decide +kernel
theorem dJ2_checkIndex_2214a_2 : decode cJ2_checkIndex_2214a 2 = .ok (.invokestatic 48, 3) := by decide +kernel
theorem dJ2_checkIndex_2214a_5 : decode cJ2_checkIndex_2214a 5 = .ok (.invokestatic 414, 3) := by decide +kernel
theorem dJ2_checkIndex_2214a_8 : decode cJ2_checkIndex_2214a 8 = .ok (.return_, 1) := by decide +kernel
theorem dJ7_fill_d0a16_0 : decode cJ7_fill_d0a16 0 = .ok (.iconst 0, 1) := by decide +kernel
theorem dJ7_fill_d0a16_1 : decode cJ7_fill_d0a16 1 = .ok (.istore_n 3, 1) := by decide +kernel
theorem dJ7_fill_d0a16_2 : decode cJ7_fill_d0a16 2 = .ok (.aload_n 0, 1) := by decide +kernel
theorem dJ7_fill_d0a16_3 : decode cJ7_fill_d0a16 3 = .ok (.arraylength, 1) := by decide +kernel
theorem dJ7_fill_d0a16_4 : decode cJ7_fill_d0a16 4 = .ok (.istore 4, 2) := by decide +kernel
theorem dJ7_fill_d0a16_6 : decode cJ7_fill_d0a16 6 = .ok (.iload_n 3, 1) := by decide +kernel
theorem dJ7_fill_d0a16_7 : decode cJ7_fill_d0a16 7 = .ok (.iload 4, 2) := by decide +kernel
theorem dJ7_fill_d0a16_9 : decode cJ7_fill_d0a16 9 = .ok (.if_icmp .ge 13, 3) := by decide +kernel
theorem dJ7_fill_d0a16_12 : decode cJ7_fill_d0a16 12 = .ok (.aload_n 0, 1) := by decide +kernel
theorem dJ7_fill_d0a16_13 : decode cJ7_fill_d0a16 13 = .ok (.iload_n 3, 1) := by decide +kernel
theorem dJ7_fill_d0a16_14 : decode cJ7_fill_d0a16 14 = .ok (.lload_n 1, 1) := by decide +kernel
theorem dJ7_fill_d0a16_15 : decode cJ7_fill_d0a16 15 = .ok (.lastore, 1) := by decide +kernel
theorem dJ7_fill_d0a16_16 : decode cJ7_fill_d0a16 16 = .ok (.iinc 3 1, 3) := by decide +kernel
theorem dJ7_fill_d0a16_19 : decode cJ7_fill_d0a16 19 = .ok (.goto (-13), 3) := by decide +kernel
theorem dJ7_fill_d0a16_22 : decode cJ7_fill_d0a16 22 = .ok (.return_, 1) := by decide +kernel
theorem dJ7_fill_53178_0 : decode cJ7_fill_53178 0 = .ok (.iconst 0, 1) := by decide +kernel
theorem dJ7_fill_53178_1 : decode cJ7_fill_53178 1 = .ok (.istore_n 2, 1) := by decide +kernel
theorem dJ7_fill_53178_2 : decode cJ7_fill_53178 2 = .ok (.aload_n 0, 1) := by decide +kernel
theorem dJ7_fill_53178_3 : decode cJ7_fill_53178 3 = .ok (.arraylength, 1) := by decide +kernel
theorem dJ7_fill_53178_4 : decode cJ7_fill_53178 4 = .ok (.istore_n 3, 1) := by decide +kernel
theorem dJ7_fill_53178_5 : decode cJ7_fill_53178 5 = .ok (.iload_n 2, 1) := by decide +kernel
theorem dJ7_fill_53178_6 : decode cJ7_fill_53178 6 = .ok (.iload_n 3, 1) := by decide +kernel
theorem dJ7_fill_53178_7 : decode cJ7_fill_53178 7 = .ok (.if_icmp .ge 13, 3) := by decide +kernel
theorem dJ7_fill_53178_10 : decode cJ7_fill_53178 10 = .ok (.aload_n 0, 1) := by decide +kernel
theorem dJ7_fill_53178_11 : decode cJ7_fill_53178 11 = .ok (.iload_n 2, 1) := by decide +kernel
theorem dJ7_fill_53178_12 : decode cJ7_fill_53178 12 = .ok (.iload_n 1, 1) := by decide +kernel
theorem dJ7_fill_53178_13 : decode cJ7_fill_53178 13 = .ok (.iastore, 1) := by decide +kernel
theorem dJ7_fill_53178_14 : decode cJ7_fill_53178 14 = .ok (.iinc 2 1, 3) := by decide +kernel
theorem dJ7_fill_53178_17 : decode cJ7_fill_53178 17 = .ok (.goto (-12), 3) := by decide +kernel
theorem dJ7_fill_53178_20 : decode cJ7_fill_53178 20 = .ok (.return_, 1) := by decide +kernel
theorem dJ3_checkIndex_8e157_0 : decode cJ3_checkIndex_8e157 0 = .ok (.iload_n 0, 1) := by decide +kernel
theorem dJ3_checkIndex_8e157_1 : decode cJ3_checkIndex_8e157 1 = .ok (.ifCond .lt 8, 3) := by decide +kernel
theorem dJ3_checkIndex_8e157_4 : decode cJ3_checkIndex_8e157 4 = .ok (.iload_n 0, 1) := by decide +kernel
theorem dJ3_checkIndex_8e157_5 : decode cJ3_checkIndex_8e157 5 = .ok (.iload_n 1, 1) := by decide +kernel
theorem dJ3_checkIndex_8e157_6 : decode cJ3_checkIndex_8e157 6 = .ok (.if_icmp .lt 10, 3) := by decide +kernel
theorem dJ3_checkIndex_8e157_9 : decode cJ3_checkIndex_8e157 9 = .ok (.aload_n 2, 1) := by decide +kernel
theorem dJ3_checkIndex_8e157_10 : decode cJ3_checkIndex_8e157 10 = .ok (.iload_n 0, 1) := by decide +kernel
theorem dJ3_checkIndex_8e157_11 : decode cJ3_checkIndex_8e157 11 = .ok (.iload_n 1, 1) := by decide +kernel
theorem dJ3_checkIndex_8e157_12 : decode cJ3_checkIndex_8e157 12 = .ok (.invokestatic 95, 3) := by decide +kernel
theorem dJ3_checkIndex_8e157_15 : decode cJ3_checkIndex_8e157 15 = .ok (.athrow, 1) := by decide +kernel
theorem dJ3_checkIndex_8e157_16 : decode cJ3_checkIndex_8e157 16 = .ok (.iload_n 0, 1) := by decide +kernel
theorem dJ3_checkIndex_8e157_17 : decode cJ3_checkIndex_8e157 17 = .ok (.ireturn, 1) := by decide +kernel
end
section
theorem dL_law_0 : decode cL_law 0 = .ok (.new 7, 3) := by decide +kernel
theorem dL_law_3 : decode cL_law 3 = .ok (.dup, 1) := by decide +kernel
theorem dL_law_4 : decode cL_law 4 = .ok (.invokespecial 9, 3) := by decide +kernel
theorem dL_law_7 : decode cL_law 7 = .ok (.astore_n 1, 1) := by decide +kernel
theorem dL_law_8 : decode cL_law 8 = .ok (.new 10, 3) := by decide +kernel
theorem dL_law_11 : decode cL_law 11 = .ok (.dup, 1) := by decide +kernel
theorem dL_law_12 : decode cL_law 12 = .ok (.invokespecial 12, 3) := by decide +kernel
theorem dL_law_15 : decode cL_law 15 = .ok (.astore_n 2, 1) := by decide +kernel
theorem dL_law_16 : decode cL_law 16 = .ok (.iconst 0, 1) := by decide +kernel
theorem dL_law_17 : decode cL_law 17 = .ok (.istore_n 3, 1) := by decide +kernel
theorem dL_law_18 : decode cL_law 18 = .ok (.iload_n 3, 1) := by decide +kernel
theorem dL_law_19 : decode cL_law 19 = .ok (.aload_n 0, 1) := by decide +kernel
theorem dL_law_20 : decode cL_law 20 = .ok (.arraylength, 1) := by decide +kernel
theorem dL_law_21 : decode cL_law 21 = .ok (.bipush 6, 2) := by decide +kernel
theorem dL_law_23 : decode cL_law 23 = .ok (.isub, 1) := by decide +kernel
theorem dL_law_24 : decode cL_law 24 = .ok (.if_icmp .gt 1287, 3) := by decide +kernel
theorem dL_law_27 : decode cL_law 27 = .ok (.aload_n 0, 1) := by decide +kernel
theorem dL_law_28 : decode cL_law 28 = .ok (.iload_n 3, 1) := by decide +kernel
theorem dL_law_29 : decode cL_law 29 = .ok (.iaload, 1) := by decide +kernel
theorem dL_law_30 : decode cL_law 30 = .ok (.bipush 63, 2) := by decide +kernel
theorem dL_law_32 : decode cL_law 32 = .ok (.iand, 1) := by decide +kernel
theorem dL_law_33 : decode cL_law 33 = .ok (.tableswitch 1272 0 32 #[147, 180, 213, 226, 259, 292, 355, 378, 411, 424, 458, 492, 526, 579, 623, 656, 669, 682, 715, 768, 832, 876, 909, 952, 1025, 1068, 1101, 1134, 1177, 1200, 1223, 1246, 1259], 147) := by decide +kernel
theorem dL_law_180 : decode cL_law 180 = .ok (.aload_n 1, 1) := by decide +kernel
theorem dL_law_181 : decode cL_law 181 = .ok (.aload_n 0, 1) := by decide +kernel
theorem dL_law_182 : decode cL_law 182 = .ok (.iload_n 3, 1) := by decide +kernel
theorem dL_law_183 : decode cL_law 183 = .ok (.iconst 1, 1) := by decide +kernel
theorem dL_law_184 : decode cL_law 184 = .ok (.iadd, 1) := by decide +kernel
theorem dL_law_185 : decode cL_law 185 = .ok (.iaload, 1) := by decide +kernel
theorem dL_law_186 : decode cL_law 186 = .ok (.aload_n 0, 1) := by decide +kernel
theorem dL_law_187 : decode cL_law 187 = .ok (.iload_n 3, 1) := by decide +kernel
theorem dL_law_188 : decode cL_law 188 = .ok (.iconst 2, 1) := by decide +kernel
theorem dL_law_189 : decode cL_law 189 = .ok (.iadd, 1) := by decide +kernel
theorem dL_law_190 : decode cL_law 190 = .ok (.iaload, 1) := by decide +kernel
theorem dL_law_191 : decode cL_law 191 = .ok (.invokevirtual 13, 3) := by decide +kernel
theorem dL_law_194 : decode cL_law 194 = .ok (.aload_n 2, 1) := by decide +kernel
theorem dL_law_195 : decode cL_law 195 = .ok (.aload_n 0, 1) := by decide +kernel
theorem dL_law_196 : decode cL_law 196 = .ok (.iload_n 3, 1) := by decide +kernel
theorem dL_law_197 : decode cL_law 197 = .ok (.iconst 1, 1) := by decide +kernel
theorem dL_law_198 : decode cL_law 198 = .ok (.iadd, 1) := by decide +kernel
theorem dL_law_199 : decode cL_law 199 = .ok (.iaload, 1) := by decide +kernel
theorem dL_law_200 : decode cL_law 200 = .ok (.aload_n 0, 1) := by decide +kernel
theorem dL_law_201 : decode cL_law 201 = .ok (.iload_n 3, 1) := by decide +kernel
theorem dL_law_202 : decode cL_law 202 = .ok (.iconst 2, 1) := by decide +kernel
theorem dL_law_203 : decode cL_law 203 = .ok (.iadd, 1) := by decide +kernel
theorem dL_law_204 : decode cL_law 204 = .ok (.iaload, 1) := by decide +kernel
theorem dL_law_205 : decode cL_law 205 = .ok (.invokevirtual 17, 3) := by decide +kernel
theorem dL_law_208 : decode cL_law 208 = .ok (.if_icmp .eq 1097, 3) := by decide +kernel
theorem dL_law_211 : decode cL_law 211 = .ok (.iconst 0, 1) := by decide +kernel
theorem dL_law_212 : decode cL_law 212 = .ok (.ireturn, 1) := by decide +kernel
theorem dL_law_213 : decode cL_law 213 = .ok (.aload_n 1, 1) := by decide +kernel
theorem dL_law_214 : decode cL_law 214 = .ok (.aload_n 0, 1) := by decide +kernel
theorem dL_law_215 : decode cL_law 215 = .ok (.iload_n 3, 1) := by decide +kernel
theorem dL_law_216 : decode cL_law 216 = .ok (.iconst 1, 1) := by decide +kernel
theorem dL_law_217 : decode cL_law 217 = .ok (.iadd, 1) := by decide +kernel
theorem dL_law_218 : decode cL_law 218 = .ok (.iaload, 1) := by decide +kernel
theorem dL_law_219 : decode cL_law 219 = .ok (.aload_n 0, 1) := by decide +kernel
theorem dL_law_220 : decode cL_law 220 = .ok (.iload_n 3, 1) := by decide +kernel
theorem dL_law_221 : decode cL_law 221 = .ok (.iconst 2, 1) := by decide +kernel
theorem dL_law_222 : decode cL_law 222 = .ok (.iadd, 1) := by decide +kernel
theorem dL_law_223 : decode cL_law 223 = .ok (.iaload, 1) := by decide +kernel
theorem dL_law_224 : decode cL_law 224 = .ok (.invokevirtual 18, 3) := by decide +kernel
theorem dL_law_227 : decode cL_law 227 = .ok (.aload_n 2, 1) := by decide +kernel
theorem dL_law_228 : decode cL_law 228 = .ok (.aload_n 0, 1) := by decide +kernel
theorem dL_law_229 : decode cL_law 229 = .ok (.iload_n 3, 1) := by decide +kernel
theorem dL_law_230 : decode cL_law 230 = .ok (.iconst 1, 1) := by decide +kernel
theorem dL_law_231 : decode cL_law 231 = .ok (.iadd, 1) := by decide +kernel
theorem dL_law_232 : decode cL_law 232 = .ok (.iaload, 1) := by decide +kernel
theorem dL_law_233 : decode cL_law 233 = .ok (.aload_n 0, 1) := by decide +kernel
theorem dL_law_234 : decode cL_law 234 = .ok (.iload_n 3, 1) := by decide +kernel
theorem dL_law_235 : decode cL_law 235 = .ok (.iconst 2, 1) := by decide +kernel
theorem dL_law_236 : decode cL_law 236 = .ok (.iadd, 1) := by decide +kernel
theorem dL_law_237 : decode cL_law 237 = .ok (.iaload, 1) := by decide +kernel
theorem dL_law_238 : decode cL_law 238 = .ok (.invokevirtual 21, 3) := by decide +kernel
theorem dL_law_241 : decode cL_law 241 = .ok (.if_icmp .eq 1064, 3) := by decide +kernel
theorem dL_law_244 : decode cL_law 244 = .ok (.iconst 0, 1) := by decide +kernel
theorem dL_law_245 : decode cL_law 245 = .ok (.ireturn, 1) := by decide +kernel
theorem dL_law_246 : decode cL_law 246 = .ok (.aload_n 1, 1) := by decide +kernel
theorem dL_law_247 : decode cL_law 247 = .ok (.invokevirtual 22, 3) := by decide +kernel
theorem dL_law_250 : decode cL_law 250 = .ok (.aload_n 2, 1) := by decide +kernel
theorem dL_law_251 : decode cL_law 251 = .ok (.invokevirtual 26, 3) := by decide +kernel
theorem dL_law_254 : decode cL_law 254 = .ok (.if_icmp .eq 1051, 3) := by decide +kernel
theorem dL_law_257 : decode cL_law 257 = .ok (.iconst 0, 1) := by decide +kernel
theorem dL_law_258 : decode cL_law 258 = .ok (.ireturn, 1) := by decide +kernel
theorem dL_law_259 : decode cL_law 259 = .ok (.aload_n 1, 1) := by decide +kernel
theorem dL_law_260 : decode cL_law 260 = .ok (.aload_n 0, 1) := by decide +kernel
theorem dL_law_261 : decode cL_law 261 = .ok (.iload_n 3, 1) := by decide +kernel
theorem dL_law_262 : decode cL_law 262 = .ok (.iconst 1, 1) := by decide +kernel
theorem dL_law_263 : decode cL_law 263 = .ok (.iadd, 1) := by decide +kernel
theorem dL_law_264 : decode cL_law 264 = .ok (.iaload, 1) := by decide +kernel
theorem dL_law_265 : decode cL_law 265 = .ok (.aload_n 0, 1) := by decide +kernel
theorem dL_law_266 : decode cL_law 266 = .ok (.iload_n 3, 1) := by decide +kernel
theorem dL_law_267 : decode cL_law 267 = .ok (.iconst 2, 1) := by decide +kernel
theorem dL_law_268 : decode cL_law 268 = .ok (.iadd, 1) := by decide +kernel
theorem dL_law_269 : decode cL_law 269 = .ok (.iaload, 1) := by decide +kernel
theorem dL_law_270 : decode cL_law 270 = .ok (.invokevirtual 27, 3) := by decide +kernel
theorem dL_law_273 : decode cL_law 273 = .ok (.aload_n 2, 1) := by decide +kernel
theorem dL_law_274 : decode cL_law 274 = .ok (.aload_n 0, 1) := by decide +kernel
theorem dL_law_275 : decode cL_law 275 = .ok (.iload_n 3, 1) := by decide +kernel
theorem dL_law_276 : decode cL_law 276 = .ok (.iconst 1, 1) := by decide +kernel
theorem dL_law_277 : decode cL_law 277 = .ok (.iadd, 1) := by decide +kernel
theorem dL_law_278 : decode cL_law 278 = .ok (.iaload, 1) := by decide +kernel
theorem dL_law_279 : decode cL_law 279 = .ok (.aload_n 0, 1) := by decide +kernel
theorem dL_law_280 : decode cL_law 280 = .ok (.iload_n 3, 1) := by decide +kernel
theorem dL_law_281 : decode cL_law 281 = .ok (.iconst 2, 1) := by decide +kernel
theorem dL_law_282 : decode cL_law 282 = .ok (.iadd, 1) := by decide +kernel
theorem dL_law_283 : decode cL_law 283 = .ok (.iaload, 1) := by decide +kernel
theorem dL_law_284 : decode cL_law 284 = .ok (.invokevirtual 30, 3) := by decide +kernel
theorem dL_law_287 : decode cL_law 287 = .ok (.if_icmp .eq 1018, 3) := by decide +kernel
theorem dL_law_290 : decode cL_law 290 = .ok (.iconst 0, 1) := by decide +kernel
theorem dL_law_291 : decode cL_law 291 = .ok (.ireturn, 1) := by decide +kernel
theorem dL_law_292 : decode cL_law 292 = .ok (.aload_n 1, 1) := by decide +kernel
theorem dL_law_293 : decode cL_law 293 = .ok (.aload_n 0, 1) := by decide +kernel
theorem dL_law_294 : decode cL_law 294 = .ok (.iload_n 3, 1) := by decide +kernel
theorem dL_law_295 : decode cL_law 295 = .ok (.iconst 1, 1) := by decide +kernel
theorem dL_law_296 : decode cL_law 296 = .ok (.iadd, 1) := by decide +kernel
theorem dL_law_297 : decode cL_law 297 = .ok (.iaload, 1) := by decide +kernel
theorem dL_law_298 : decode cL_law 298 = .ok (.aload_n 0, 1) := by decide +kernel
theorem dL_law_299 : decode cL_law 299 = .ok (.iload_n 3, 1) := by decide +kernel
theorem dL_law_300 : decode cL_law 300 = .ok (.iconst 2, 1) := by decide +kernel
theorem dL_law_301 : decode cL_law 301 = .ok (.iadd, 1) := by decide +kernel
theorem dL_law_302 : decode cL_law 302 = .ok (.iaload, 1) := by decide +kernel
theorem dL_law_303 : decode cL_law 303 = .ok (.invokevirtual 31, 3) := by decide +kernel
theorem dL_law_306 : decode cL_law 306 = .ok (.aload_n 2, 1) := by decide +kernel
theorem dL_law_307 : decode cL_law 307 = .ok (.aload_n 0, 1) := by decide +kernel
theorem dL_law_308 : decode cL_law 308 = .ok (.iload_n 3, 1) := by decide +kernel
theorem dL_law_309 : decode cL_law 309 = .ok (.iconst 1, 1) := by decide +kernel
theorem dL_law_310 : decode cL_law 310 = .ok (.iadd, 1) := by decide +kernel
theorem dL_law_311 : decode cL_law 311 = .ok (.iaload, 1) := by decide +kernel
theorem dL_law_312 : decode cL_law 312 = .ok (.aload_n 0, 1) := by decide +kernel
theorem dL_law_313 : decode cL_law 313 = .ok (.iload_n 3, 1) := by decide +kernel
theorem dL_law_314 : decode cL_law 314 = .ok (.iconst 2, 1) := by decide +kernel
theorem dL_law_315 : decode cL_law 315 = .ok (.iadd, 1) := by decide +kernel
theorem dL_law_316 : decode cL_law 316 = .ok (.iaload, 1) := by decide +kernel
theorem dL_law_317 : decode cL_law 317 = .ok (.invokevirtual 34, 3) := by decide +kernel
theorem dL_law_320 : decode cL_law 320 = .ok (.if_icmp .eq 985, 3) := by decide +kernel
theorem dL_law_323 : decode cL_law 323 = .ok (.iconst 0, 1) := by decide +kernel
theorem dL_law_324 : decode cL_law 324 = .ok (.ireturn, 1) := by decide +kernel
theorem dL_law_325 : decode cL_law 325 = .ok (.aload_n 1, 1) := by decide +kernel
theorem dL_law_326 : decode cL_law 326 = .ok (.aload_n 0, 1) := by decide +kernel
theorem dL_law_327 : decode cL_law 327 = .ok (.iload_n 3, 1) := by decide +kernel
theorem dL_law_328 : decode cL_law 328 = .ok (.iconst 1, 1) := by decide +kernel
theorem dL_law_329 : decode cL_law 329 = .ok (.iadd, 1) := by decide +kernel
theorem dL_law_330 : decode cL_law 330 = .ok (.iaload, 1) := by decide +kernel
theorem dL_law_331 : decode cL_law 331 = .ok (.i2l, 1) := by decide +kernel
theorem dL_law_332 : decode cL_law 332 = .ok (.bipush 32, 2) := by decide +kernel
theorem dL_law_334 : decode cL_law 334 = .ok (.lshl, 1) := by decide +kernel
theorem dL_law_335 : decode cL_law 335 = .ok (.aload_n 0, 1) := by decide +kernel
theorem dL_law_336 : decode cL_law 336 = .ok (.iload_n 3, 1) := by decide +kernel
theorem dL_law_337 : decode cL_law 337 = .ok (.iconst 2, 1) := by decide +kernel
theorem dL_law_338 : decode cL_law 338 = .ok (.iadd, 1) := by decide +kernel
theorem dL_law_339 : decode cL_law 339 = .ok (.iaload, 1) := by decide +kernel
theorem dL_law_340 : decode cL_law 340 = .ok (.i2l, 1) := by decide +kernel
theorem dL_law_341 : decode cL_law 341 = .ok (.ldc2_w 35, 3) := by decide +kernel
theorem dL_law_344 : decode cL_law 344 = .ok (.land, 1) := by decide +kernel
theorem dL_law_345 : decode cL_law 345 = .ok (.lor, 1) := by decide +kernel
theorem dL_law_346 : decode cL_law 346 = .ok (.aload_n 0, 1) := by decide +kernel
theorem dL_law_347 : decode cL_law 347 = .ok (.iload_n 3, 1) := by decide +kernel
theorem dL_law_348 : decode cL_law 348 = .ok (.iconst 3, 1) := by decide +kernel
theorem dL_law_349 : decode cL_law 349 = .ok (.iadd, 1) := by decide +kernel
theorem dL_law_350 : decode cL_law 350 = .ok (.iaload, 1) := by decide +kernel
theorem dL_law_351 : decode cL_law 351 = .ok (.invokevirtual 37, 3) := by decide +kernel
theorem dL_law_354 : decode cL_law 354 = .ok (.aload_n 2, 1) := by decide +kernel
theorem dL_law_355 : decode cL_law 355 = .ok (.aload_n 0, 1) := by decide +kernel
theorem dL_law_356 : decode cL_law 356 = .ok (.iload_n 3, 1) := by decide +kernel
theorem dL_law_357 : decode cL_law 357 = .ok (.iconst 1, 1) := by decide +kernel
theorem dL_law_358 : decode cL_law 358 = .ok (.iadd, 1) := by decide +kernel
theorem dL_law_359 : decode cL_law 359 = .ok (.iaload, 1) := by decide +kernel
theorem dL_law_360 : decode cL_law 360 = .ok (.i2l, 1) := by decide +kernel
theorem dL_law_361 : decode cL_law 361 = .ok (.bipush 32, 2) := by decide +kernel
theorem dL_law_363 : decode cL_law 363 = .ok (.lshl, 1) := by decide +kernel
theorem dL_law_364 : decode cL_law 364 = .ok (.aload_n 0, 1) := by decide +kernel
theorem dL_law_365 : decode cL_law 365 = .ok (.iload_n 3, 1) := by decide +kernel
theorem dL_law_366 : decode cL_law 366 = .ok (.iconst 2, 1) := by decide +kernel
theorem dL_law_367 : decode cL_law 367 = .ok (.iadd, 1) := by decide +kernel
theorem dL_law_368 : decode cL_law 368 = .ok (.iaload, 1) := by decide +kernel
theorem dL_law_369 : decode cL_law 369 = .ok (.i2l, 1) := by decide +kernel
theorem dL_law_370 : decode cL_law 370 = .ok (.ldc2_w 35, 3) := by decide +kernel
theorem dL_law_373 : decode cL_law 373 = .ok (.land, 1) := by decide +kernel
theorem dL_law_374 : decode cL_law 374 = .ok (.lor, 1) := by decide +kernel
theorem dL_law_375 : decode cL_law 375 = .ok (.aload_n 0, 1) := by decide +kernel
theorem dL_law_376 : decode cL_law 376 = .ok (.iload_n 3, 1) := by decide +kernel
theorem dL_law_377 : decode cL_law 377 = .ok (.iconst 3, 1) := by decide +kernel
theorem dL_law_378 : decode cL_law 378 = .ok (.iadd, 1) := by decide +kernel
theorem dL_law_379 : decode cL_law 379 = .ok (.iaload, 1) := by decide +kernel
theorem dL_law_380 : decode cL_law 380 = .ok (.invokevirtual 41, 3) := by decide +kernel
theorem dL_law_383 : decode cL_law 383 = .ok (.if_icmp .eq 922, 3) := by decide +kernel
theorem dL_law_386 : decode cL_law 386 = .ok (.iconst 0, 1) := by decide +kernel
theorem dL_law_387 : decode cL_law 387 = .ok (.ireturn, 1) := by decide +kernel
theorem dL_law_388 : decode cL_law 388 = .ok (.aload_n 1, 1) := by decide +kernel
theorem dL_law_389 : decode cL_law 389 = .ok (.aload_n 0, 1) := by decide +kernel
theorem dL_law_390 : decode cL_law 390 = .ok (.iload_n 3, 1) := by decide +kernel
theorem dL_law_391 : decode cL_law 391 = .ok (.iconst 1, 1) := by decide +kernel
theorem dL_law_392 : decode cL_law 392 = .ok (.iadd, 1) := by decide +kernel
theorem dL_law_393 : decode cL_law 393 = .ok (.iaload, 1) := by decide +kernel
theorem dL_law_394 : decode cL_law 394 = .ok (.invokevirtual 42, 3) := by decide +kernel
theorem dL_law_397 : decode cL_law 397 = .ok (.aload_n 2, 1) := by decide +kernel
theorem dL_law_398 : decode cL_law 398 = .ok (.aload_n 0, 1) := by decide +kernel
theorem dL_law_399 : decode cL_law 399 = .ok (.iload_n 3, 1) := by decide +kernel
theorem dL_law_400 : decode cL_law 400 = .ok (.iconst 1, 1) := by decide +kernel
theorem dL_law_401 : decode cL_law 401 = .ok (.iadd, 1) := by decide +kernel
theorem dL_law_402 : decode cL_law 402 = .ok (.iaload, 1) := by decide +kernel
theorem dL_law_403 : decode cL_law 403 = .ok (.invokevirtual 46, 3) := by decide +kernel
theorem dL_law_406 : decode cL_law 406 = .ok (.if_icmp .eq 899, 3) := by decide +kernel
theorem dL_law_409 : decode cL_law 409 = .ok (.iconst 0, 1) := by decide +kernel
theorem dL_law_410 : decode cL_law 410 = .ok (.ireturn, 1) := by decide +kernel
theorem dL_law_411 : decode cL_law 411 = .ok (.aload_n 1, 1) := by decide +kernel
theorem dL_law_412 : decode cL_law 412 = .ok (.aload_n 0, 1) := by decide +kernel
theorem dL_law_413 : decode cL_law 413 = .ok (.iload_n 3, 1) := by decide +kernel
theorem dL_law_414 : decode cL_law 414 = .ok (.iconst 1, 1) := by decide +kernel
theorem dL_law_415 : decode cL_law 415 = .ok (.iadd, 1) := by decide +kernel
theorem dL_law_416 : decode cL_law 416 = .ok (.iaload, 1) := by decide +kernel
theorem dL_law_417 : decode cL_law 417 = .ok (.aload_n 0, 1) := by decide +kernel
theorem dL_law_418 : decode cL_law 418 = .ok (.iload_n 3, 1) := by decide +kernel
theorem dL_law_419 : decode cL_law 419 = .ok (.iconst 2, 1) := by decide +kernel
theorem dL_law_420 : decode cL_law 420 = .ok (.iadd, 1) := by decide +kernel
theorem dL_law_421 : decode cL_law 421 = .ok (.iaload, 1) := by decide +kernel
theorem dL_law_422 : decode cL_law 422 = .ok (.invokevirtual 47, 3) := by decide +kernel
theorem dL_law_425 : decode cL_law 425 = .ok (.aload_n 2, 1) := by decide +kernel
theorem dL_law_426 : decode cL_law 426 = .ok (.aload_n 0, 1) := by decide +kernel
theorem dL_law_427 : decode cL_law 427 = .ok (.iload_n 3, 1) := by decide +kernel
theorem dL_law_428 : decode cL_law 428 = .ok (.iconst 1, 1) := by decide +kernel
theorem dL_law_429 : decode cL_law 429 = .ok (.iadd, 1) := by decide +kernel
theorem dL_law_430 : decode cL_law 430 = .ok (.iaload, 1) := by decide +kernel
theorem dL_law_431 : decode cL_law 431 = .ok (.aload_n 0, 1) := by decide +kernel
theorem dL_law_432 : decode cL_law 432 = .ok (.iload_n 3, 1) := by decide +kernel
theorem dL_law_433 : decode cL_law 433 = .ok (.iconst 2, 1) := by decide +kernel
theorem dL_law_434 : decode cL_law 434 = .ok (.iadd, 1) := by decide +kernel
theorem dL_law_435 : decode cL_law 435 = .ok (.iaload, 1) := by decide +kernel
theorem dL_law_436 : decode cL_law 436 = .ok (.invokevirtual 50, 3) := by decide +kernel
theorem dL_law_439 : decode cL_law 439 = .ok (.if_icmp .eq 866, 3) := by decide +kernel
theorem dL_law_442 : decode cL_law 442 = .ok (.iconst 0, 1) := by decide +kernel
theorem dL_law_443 : decode cL_law 443 = .ok (.ireturn, 1) := by decide +kernel
theorem dL_law_444 : decode cL_law 444 = .ok (.aload_n 1, 1) := by decide +kernel
theorem dL_law_445 : decode cL_law 445 = .ok (.invokevirtual 51, 3) := by decide +kernel
theorem dL_law_448 : decode cL_law 448 = .ok (.aload_n 2, 1) := by decide +kernel
theorem dL_law_449 : decode cL_law 449 = .ok (.invokevirtual 54, 3) := by decide +kernel
theorem dL_law_452 : decode cL_law 452 = .ok (.if_icmp .eq 853, 3) := by decide +kernel
theorem dL_law_455 : decode cL_law 455 = .ok (.iconst 0, 1) := by decide +kernel
theorem dL_law_456 : decode cL_law 456 = .ok (.ireturn, 1) := by decide +kernel
theorem dL_law_457 : decode cL_law 457 = .ok (.aload_n 1, 1) := by decide +kernel
theorem dL_law_458 : decode cL_law 458 = .ok (.aload_n 0, 1) := by decide +kernel
theorem dL_law_459 : decode cL_law 459 = .ok (.iload_n 3, 1) := by decide +kernel
theorem dL_law_460 : decode cL_law 460 = .ok (.iconst 1, 1) := by decide +kernel
theorem dL_law_461 : decode cL_law 461 = .ok (.iadd, 1) := by decide +kernel
theorem dL_law_462 : decode cL_law 462 = .ok (.iaload, 1) := by decide +kernel
theorem dL_law_463 : decode cL_law 463 = .ok (.aload_n 0, 1) := by decide +kernel
theorem dL_law_464 : decode cL_law 464 = .ok (.iload_n 3, 1) := by decide +kernel
theorem dL_law_465 : decode cL_law 465 = .ok (.iconst 2, 1) := by decide +kernel
theorem dL_law_466 : decode cL_law 466 = .ok (.iadd, 1) := by decide +kernel
theorem dL_law_467 : decode cL_law 467 = .ok (.iaload, 1) := by decide +kernel
theorem dL_law_468 : decode cL_law 468 = .ok (.invokevirtual 55, 3) := by decide +kernel
theorem dL_law_471 : decode cL_law 471 = .ok (.aload_n 2, 1) := by decide +kernel
theorem dL_law_472 : decode cL_law 472 = .ok (.aload_n 0, 1) := by decide +kernel
theorem dL_law_473 : decode cL_law 473 = .ok (.iload_n 3, 1) := by decide +kernel
theorem dL_law_474 : decode cL_law 474 = .ok (.iconst 1, 1) := by decide +kernel
theorem dL_law_475 : decode cL_law 475 = .ok (.iadd, 1) := by decide +kernel
theorem dL_law_476 : decode cL_law 476 = .ok (.iaload, 1) := by decide +kernel
theorem dL_law_477 : decode cL_law 477 = .ok (.aload_n 0, 1) := by decide +kernel
theorem dL_law_478 : decode cL_law 478 = .ok (.iload_n 3, 1) := by decide +kernel
theorem dL_law_479 : decode cL_law 479 = .ok (.iconst 2, 1) := by decide +kernel
theorem dL_law_480 : decode cL_law 480 = .ok (.iadd, 1) := by decide +kernel
theorem dL_law_481 : decode cL_law 481 = .ok (.iaload, 1) := by decide +kernel
theorem dL_law_482 : decode cL_law 482 = .ok (.invokevirtual 59, 3) := by decide +kernel
theorem dL_law_485 : decode cL_law 485 = .ok (.lcmp, 1) := by decide +kernel
theorem dL_law_486 : decode cL_law 486 = .ok (.ifCond .eq 819, 3) := by decide +kernel
theorem dL_law_489 : decode cL_law 489 = .ok (.iconst 0, 1) := by decide +kernel
theorem dL_law_490 : decode cL_law 490 = .ok (.ireturn, 1) := by decide +kernel
theorem dL_law_491 : decode cL_law 491 = .ok (.aload_n 1, 1) := by decide +kernel
theorem dL_law_492 : decode cL_law 492 = .ok (.aload_n 0, 1) := by decide +kernel
theorem dL_law_493 : decode cL_law 493 = .ok (.iload_n 3, 1) := by decide +kernel
theorem dL_law_494 : decode cL_law 494 = .ok (.iconst 1, 1) := by decide +kernel
theorem dL_law_495 : decode cL_law 495 = .ok (.iadd, 1) := by decide +kernel
theorem dL_law_496 : decode cL_law 496 = .ok (.iaload, 1) := by decide +kernel
theorem dL_law_497 : decode cL_law 497 = .ok (.aload_n 0, 1) := by decide +kernel
theorem dL_law_498 : decode cL_law 498 = .ok (.iload_n 3, 1) := by decide +kernel
theorem dL_law_499 : decode cL_law 499 = .ok (.iconst 2, 1) := by decide +kernel
theorem dL_law_500 : decode cL_law 500 = .ok (.iadd, 1) := by decide +kernel
theorem dL_law_501 : decode cL_law 501 = .ok (.iaload, 1) := by decide +kernel
theorem dL_law_502 : decode cL_law 502 = .ok (.invokevirtual 60, 3) := by decide +kernel
theorem dL_law_505 : decode cL_law 505 = .ok (.aload_n 2, 1) := by decide +kernel
theorem dL_law_506 : decode cL_law 506 = .ok (.aload_n 0, 1) := by decide +kernel
theorem dL_law_507 : decode cL_law 507 = .ok (.iload_n 3, 1) := by decide +kernel
theorem dL_law_508 : decode cL_law 508 = .ok (.iconst 1, 1) := by decide +kernel
theorem dL_law_509 : decode cL_law 509 = .ok (.iadd, 1) := by decide +kernel
theorem dL_law_510 : decode cL_law 510 = .ok (.iaload, 1) := by decide +kernel
theorem dL_law_511 : decode cL_law 511 = .ok (.aload_n 0, 1) := by decide +kernel
theorem dL_law_512 : decode cL_law 512 = .ok (.iload_n 3, 1) := by decide +kernel
theorem dL_law_513 : decode cL_law 513 = .ok (.iconst 2, 1) := by decide +kernel
theorem dL_law_514 : decode cL_law 514 = .ok (.iadd, 1) := by decide +kernel
theorem dL_law_515 : decode cL_law 515 = .ok (.iaload, 1) := by decide +kernel
theorem dL_law_516 : decode cL_law 516 = .ok (.invokevirtual 63, 3) := by decide +kernel
theorem dL_law_519 : decode cL_law 519 = .ok (.lcmp, 1) := by decide +kernel
theorem dL_law_520 : decode cL_law 520 = .ok (.ifCond .eq 785, 3) := by decide +kernel
theorem dL_law_523 : decode cL_law 523 = .ok (.iconst 0, 1) := by decide +kernel
theorem dL_law_524 : decode cL_law 524 = .ok (.ireturn, 1) := by decide +kernel
theorem dL_law_525 : decode cL_law 525 = .ok (.aload_n 1, 1) := by decide +kernel
theorem dL_law_526 : decode cL_law 526 = .ok (.aload_n 0, 1) := by decide +kernel
theorem dL_law_527 : decode cL_law 527 = .ok (.iload_n 3, 1) := by decide +kernel
theorem dL_law_528 : decode cL_law 528 = .ok (.iconst 1, 1) := by decide +kernel
theorem dL_law_529 : decode cL_law 529 = .ok (.iadd, 1) := by decide +kernel
theorem dL_law_530 : decode cL_law 530 = .ok (.iaload, 1) := by decide +kernel
theorem dL_law_531 : decode cL_law 531 = .ok (.aload_n 0, 1) := by decide +kernel
theorem dL_law_532 : decode cL_law 532 = .ok (.iload_n 3, 1) := by decide +kernel
theorem dL_law_533 : decode cL_law 533 = .ok (.iconst 2, 1) := by decide +kernel
theorem dL_law_534 : decode cL_law 534 = .ok (.iadd, 1) := by decide +kernel
theorem dL_law_535 : decode cL_law 535 = .ok (.iaload, 1) := by decide +kernel
theorem dL_law_536 : decode cL_law 536 = .ok (.invokevirtual 64, 3) := by decide +kernel
theorem dL_law_539 : decode cL_law 539 = .ok (.aload_n 2, 1) := by decide +kernel
theorem dL_law_540 : decode cL_law 540 = .ok (.aload_n 0, 1) := by decide +kernel
theorem dL_law_541 : decode cL_law 541 = .ok (.iload_n 3, 1) := by decide +kernel
theorem dL_law_542 : decode cL_law 542 = .ok (.iconst 1, 1) := by decide +kernel
theorem dL_law_543 : decode cL_law 543 = .ok (.iadd, 1) := by decide +kernel
theorem dL_law_544 : decode cL_law 544 = .ok (.iaload, 1) := by decide +kernel
theorem dL_law_545 : decode cL_law 545 = .ok (.aload_n 0, 1) := by decide +kernel
theorem dL_law_546 : decode cL_law 546 = .ok (.iload_n 3, 1) := by decide +kernel
theorem dL_law_547 : decode cL_law 547 = .ok (.iconst 2, 1) := by decide +kernel
theorem dL_law_548 : decode cL_law 548 = .ok (.iadd, 1) := by decide +kernel
theorem dL_law_549 : decode cL_law 549 = .ok (.iaload, 1) := by decide +kernel
theorem dL_law_550 : decode cL_law 550 = .ok (.invokevirtual 67, 3) := by decide +kernel
theorem dL_law_553 : decode cL_law 553 = .ok (.lcmp, 1) := by decide +kernel
theorem dL_law_554 : decode cL_law 554 = .ok (.ifCond .eq 751, 3) := by decide +kernel
theorem dL_law_557 : decode cL_law 557 = .ok (.iconst 0, 1) := by decide +kernel
theorem dL_law_558 : decode cL_law 558 = .ok (.ireturn, 1) := by decide +kernel
theorem dL_law_559 : decode cL_law 559 = .ok (.aload_n 1, 1) := by decide +kernel
theorem dL_law_560 : decode cL_law 560 = .ok (.aload_n 0, 1) := by decide +kernel
theorem dL_law_561 : decode cL_law 561 = .ok (.iload_n 3, 1) := by decide +kernel
theorem dL_law_562 : decode cL_law 562 = .ok (.iconst 1, 1) := by decide +kernel
theorem dL_law_563 : decode cL_law 563 = .ok (.iadd, 1) := by decide +kernel
theorem dL_law_564 : decode cL_law 564 = .ok (.iaload, 1) := by decide +kernel
theorem dL_law_565 : decode cL_law 565 = .ok (.aload_n 0, 1) := by decide +kernel
theorem dL_law_566 : decode cL_law 566 = .ok (.iload_n 3, 1) := by decide +kernel
theorem dL_law_567 : decode cL_law 567 = .ok (.iconst 2, 1) := by decide +kernel
theorem dL_law_568 : decode cL_law 568 = .ok (.iadd, 1) := by decide +kernel
theorem dL_law_569 : decode cL_law 569 = .ok (.iaload, 1) := by decide +kernel
theorem dL_law_570 : decode cL_law 570 = .ok (.aload_n 0, 1) := by decide +kernel
theorem dL_law_571 : decode cL_law 571 = .ok (.iload_n 3, 1) := by decide +kernel
theorem dL_law_572 : decode cL_law 572 = .ok (.iconst 3, 1) := by decide +kernel
theorem dL_law_573 : decode cL_law 573 = .ok (.iadd, 1) := by decide +kernel
theorem dL_law_574 : decode cL_law 574 = .ok (.iaload, 1) := by decide +kernel
theorem dL_law_575 : decode cL_law 575 = .ok (.aload_n 0, 1) := by decide +kernel
theorem dL_law_576 : decode cL_law 576 = .ok (.iload_n 3, 1) := by decide +kernel
theorem dL_law_577 : decode cL_law 577 = .ok (.iconst 4, 1) := by decide +kernel
theorem dL_law_578 : decode cL_law 578 = .ok (.iadd, 1) := by decide +kernel
theorem dL_law_579 : decode cL_law 579 = .ok (.iaload, 1) := by decide +kernel
theorem dL_law_580 : decode cL_law 580 = .ok (.invokevirtual 68, 3) := by decide +kernel
theorem dL_law_583 : decode cL_law 583 = .ok (.aload_n 2, 1) := by decide +kernel
theorem dL_law_584 : decode cL_law 584 = .ok (.aload_n 0, 1) := by decide +kernel
theorem dL_law_585 : decode cL_law 585 = .ok (.iload_n 3, 1) := by decide +kernel
theorem dL_law_586 : decode cL_law 586 = .ok (.iconst 1, 1) := by decide +kernel
theorem dL_law_587 : decode cL_law 587 = .ok (.iadd, 1) := by decide +kernel
theorem dL_law_588 : decode cL_law 588 = .ok (.iaload, 1) := by decide +kernel
theorem dL_law_589 : decode cL_law 589 = .ok (.aload_n 0, 1) := by decide +kernel
theorem dL_law_590 : decode cL_law 590 = .ok (.iload_n 3, 1) := by decide +kernel
theorem dL_law_591 : decode cL_law 591 = .ok (.iconst 2, 1) := by decide +kernel
theorem dL_law_592 : decode cL_law 592 = .ok (.iadd, 1) := by decide +kernel
theorem dL_law_593 : decode cL_law 593 = .ok (.iaload, 1) := by decide +kernel
theorem dL_law_594 : decode cL_law 594 = .ok (.aload_n 0, 1) := by decide +kernel
theorem dL_law_595 : decode cL_law 595 = .ok (.iload_n 3, 1) := by decide +kernel
theorem dL_law_596 : decode cL_law 596 = .ok (.iconst 3, 1) := by decide +kernel
theorem dL_law_597 : decode cL_law 597 = .ok (.iadd, 1) := by decide +kernel
theorem dL_law_598 : decode cL_law 598 = .ok (.iaload, 1) := by decide +kernel
theorem dL_law_599 : decode cL_law 599 = .ok (.aload_n 0, 1) := by decide +kernel
theorem dL_law_600 : decode cL_law 600 = .ok (.iload_n 3, 1) := by decide +kernel
theorem dL_law_601 : decode cL_law 601 = .ok (.iconst 4, 1) := by decide +kernel
theorem dL_law_602 : decode cL_law 602 = .ok (.iadd, 1) := by decide +kernel
theorem dL_law_603 : decode cL_law 603 = .ok (.iaload, 1) := by decide +kernel
theorem dL_law_604 : decode cL_law 604 = .ok (.invokevirtual 72, 3) := by decide +kernel
theorem dL_law_607 : decode cL_law 607 = .ok (.if_icmp .eq 698, 3) := by decide +kernel
theorem dL_law_610 : decode cL_law 610 = .ok (.iconst 0, 1) := by decide +kernel
theorem dL_law_611 : decode cL_law 611 = .ok (.ireturn, 1) := by decide +kernel
theorem dL_law_612 : decode cL_law 612 = .ok (.aload_n 1, 1) := by decide +kernel
theorem dL_law_613 : decode cL_law 613 = .ok (.aload_n 0, 1) := by decide +kernel
theorem dL_law_614 : decode cL_law 614 = .ok (.iload_n 3, 1) := by decide +kernel
theorem dL_law_615 : decode cL_law 615 = .ok (.iconst 1, 1) := by decide +kernel
theorem dL_law_616 : decode cL_law 616 = .ok (.iadd, 1) := by decide +kernel
theorem dL_law_617 : decode cL_law 617 = .ok (.iaload, 1) := by decide +kernel
theorem dL_law_618 : decode cL_law 618 = .ok (.aload_n 0, 1) := by decide +kernel
theorem dL_law_619 : decode cL_law 619 = .ok (.iload_n 3, 1) := by decide +kernel
theorem dL_law_620 : decode cL_law 620 = .ok (.iconst 2, 1) := by decide +kernel
theorem dL_law_621 : decode cL_law 621 = .ok (.iadd, 1) := by decide +kernel
theorem dL_law_622 : decode cL_law 622 = .ok (.iaload, 1) := by decide +kernel
theorem dL_law_623 : decode cL_law 623 = .ok (.aload_n 0, 1) := by decide +kernel
theorem dL_law_624 : decode cL_law 624 = .ok (.iload_n 3, 1) := by decide +kernel
theorem dL_law_625 : decode cL_law 625 = .ok (.iconst 3, 1) := by decide +kernel
theorem dL_law_626 : decode cL_law 626 = .ok (.iadd, 1) := by decide +kernel
theorem dL_law_627 : decode cL_law 627 = .ok (.iaload, 1) := by decide +kernel
theorem dL_law_628 : decode cL_law 628 = .ok (.invokevirtual 73, 3) := by decide +kernel
theorem dL_law_631 : decode cL_law 631 = .ok (.aload_n 2, 1) := by decide +kernel
theorem dL_law_632 : decode cL_law 632 = .ok (.aload_n 0, 1) := by decide +kernel
theorem dL_law_633 : decode cL_law 633 = .ok (.iload_n 3, 1) := by decide +kernel
theorem dL_law_634 : decode cL_law 634 = .ok (.iconst 1, 1) := by decide +kernel
theorem dL_law_635 : decode cL_law 635 = .ok (.iadd, 1) := by decide +kernel
theorem dL_law_636 : decode cL_law 636 = .ok (.iaload, 1) := by decide +kernel
theorem dL_law_637 : decode cL_law 637 = .ok (.aload_n 0, 1) := by decide +kernel
theorem dL_law_638 : decode cL_law 638 = .ok (.iload_n 3, 1) := by decide +kernel
theorem dL_law_639 : decode cL_law 639 = .ok (.iconst 2, 1) := by decide +kernel
theorem dL_law_640 : decode cL_law 640 = .ok (.iadd, 1) := by decide +kernel
theorem dL_law_641 : decode cL_law 641 = .ok (.iaload, 1) := by decide +kernel
theorem dL_law_642 : decode cL_law 642 = .ok (.aload_n 0, 1) := by decide +kernel
theorem dL_law_643 : decode cL_law 643 = .ok (.iload_n 3, 1) := by decide +kernel
theorem dL_law_644 : decode cL_law 644 = .ok (.iconst 3, 1) := by decide +kernel
theorem dL_law_645 : decode cL_law 645 = .ok (.iadd, 1) := by decide +kernel
theorem dL_law_646 : decode cL_law 646 = .ok (.iaload, 1) := by decide +kernel
theorem dL_law_647 : decode cL_law 647 = .ok (.invokevirtual 77, 3) := by decide +kernel
theorem dL_law_650 : decode cL_law 650 = .ok (.lcmp, 1) := by decide +kernel
theorem dL_law_651 : decode cL_law 651 = .ok (.ifCond .eq 654, 3) := by decide +kernel
theorem dL_law_654 : decode cL_law 654 = .ok (.iconst 0, 1) := by decide +kernel
theorem dL_law_655 : decode cL_law 655 = .ok (.ireturn, 1) := by decide +kernel
theorem dL_law_656 : decode cL_law 656 = .ok (.aload_n 1, 1) := by decide +kernel
theorem dL_law_657 : decode cL_law 657 = .ok (.aload_n 0, 1) := by decide +kernel
theorem dL_law_658 : decode cL_law 658 = .ok (.iload_n 3, 1) := by decide +kernel
theorem dL_law_659 : decode cL_law 659 = .ok (.iconst 1, 1) := by decide +kernel
theorem dL_law_660 : decode cL_law 660 = .ok (.iadd, 1) := by decide +kernel
theorem dL_law_661 : decode cL_law 661 = .ok (.iaload, 1) := by decide +kernel
theorem dL_law_662 : decode cL_law 662 = .ok (.aload_n 0, 1) := by decide +kernel
theorem dL_law_663 : decode cL_law 663 = .ok (.iload_n 3, 1) := by decide +kernel
theorem dL_law_664 : decode cL_law 664 = .ok (.iconst 2, 1) := by decide +kernel
theorem dL_law_665 : decode cL_law 665 = .ok (.iadd, 1) := by decide +kernel
theorem dL_law_666 : decode cL_law 666 = .ok (.iaload, 1) := by decide +kernel
theorem dL_law_667 : decode cL_law 667 = .ok (.invokevirtual 78, 3) := by decide +kernel
theorem dL_law_670 : decode cL_law 670 = .ok (.aload_n 2, 1) := by decide +kernel
theorem dL_law_671 : decode cL_law 671 = .ok (.aload_n 0, 1) := by decide +kernel
theorem dL_law_672 : decode cL_law 672 = .ok (.iload_n 3, 1) := by decide +kernel
theorem dL_law_673 : decode cL_law 673 = .ok (.iconst 1, 1) := by decide +kernel
theorem dL_law_674 : decode cL_law 674 = .ok (.iadd, 1) := by decide +kernel
theorem dL_law_675 : decode cL_law 675 = .ok (.iaload, 1) := by decide +kernel
theorem dL_law_676 : decode cL_law 676 = .ok (.aload_n 0, 1) := by decide +kernel
theorem dL_law_677 : decode cL_law 677 = .ok (.iload_n 3, 1) := by decide +kernel
theorem dL_law_678 : decode cL_law 678 = .ok (.iconst 2, 1) := by decide +kernel
theorem dL_law_679 : decode cL_law 679 = .ok (.iadd, 1) := by decide +kernel
theorem dL_law_680 : decode cL_law 680 = .ok (.iaload, 1) := by decide +kernel
theorem dL_law_681 : decode cL_law 681 = .ok (.invokevirtual 81, 3) := by decide +kernel
theorem dL_law_684 : decode cL_law 684 = .ok (.if_icmp .eq 621, 3) := by decide +kernel
theorem dL_law_687 : decode cL_law 687 = .ok (.iconst 0, 1) := by decide +kernel
theorem dL_law_688 : decode cL_law 688 = .ok (.ireturn, 1) := by decide +kernel
theorem dL_law_689 : decode cL_law 689 = .ok (.aload_n 1, 1) := by decide +kernel
theorem dL_law_690 : decode cL_law 690 = .ok (.invokevirtual 82, 3) := by decide +kernel
theorem dL_law_693 : decode cL_law 693 = .ok (.aload_n 2, 1) := by decide +kernel
theorem dL_law_694 : decode cL_law 694 = .ok (.invokevirtual 85, 3) := by decide +kernel
theorem dL_law_697 : decode cL_law 697 = .ok (.if_icmp .eq 608, 3) := by decide +kernel
theorem dL_law_700 : decode cL_law 700 = .ok (.iconst 0, 1) := by decide +kernel
theorem dL_law_701 : decode cL_law 701 = .ok (.ireturn, 1) := by decide +kernel
theorem dL_law_702 : decode cL_law 702 = .ok (.aload_n 1, 1) := by decide +kernel
theorem dL_law_703 : decode cL_law 703 = .ok (.invokevirtual 86, 3) := by decide +kernel
theorem dL_law_706 : decode cL_law 706 = .ok (.aload_n 2, 1) := by decide +kernel
theorem dL_law_707 : decode cL_law 707 = .ok (.invokevirtual 89, 3) := by decide +kernel
theorem dL_law_710 : decode cL_law 710 = .ok (.if_icmp .eq 595, 3) := by decide +kernel
theorem dL_law_713 : decode cL_law 713 = .ok (.iconst 0, 1) := by decide +kernel
theorem dL_law_714 : decode cL_law 714 = .ok (.ireturn, 1) := by decide +kernel
theorem dL_law_715 : decode cL_law 715 = .ok (.aload_n 1, 1) := by decide +kernel
theorem dL_law_716 : decode cL_law 716 = .ok (.aload_n 0, 1) := by decide +kernel
theorem dL_law_717 : decode cL_law 717 = .ok (.iload_n 3, 1) := by decide +kernel
theorem dL_law_718 : decode cL_law 718 = .ok (.iconst 1, 1) := by decide +kernel
theorem dL_law_719 : decode cL_law 719 = .ok (.iadd, 1) := by decide +kernel
theorem dL_law_720 : decode cL_law 720 = .ok (.iaload, 1) := by decide +kernel
theorem dL_law_721 : decode cL_law 721 = .ok (.aload_n 0, 1) := by decide +kernel
theorem dL_law_722 : decode cL_law 722 = .ok (.iload_n 3, 1) := by decide +kernel
theorem dL_law_723 : decode cL_law 723 = .ok (.iconst 2, 1) := by decide +kernel
theorem dL_law_724 : decode cL_law 724 = .ok (.iadd, 1) := by decide +kernel
theorem dL_law_725 : decode cL_law 725 = .ok (.iaload, 1) := by decide +kernel
theorem dL_law_726 : decode cL_law 726 = .ok (.invokevirtual 90, 3) := by decide +kernel
theorem dL_law_729 : decode cL_law 729 = .ok (.aload_n 2, 1) := by decide +kernel
theorem dL_law_730 : decode cL_law 730 = .ok (.aload_n 0, 1) := by decide +kernel
theorem dL_law_731 : decode cL_law 731 = .ok (.iload_n 3, 1) := by decide +kernel
theorem dL_law_732 : decode cL_law 732 = .ok (.iconst 1, 1) := by decide +kernel
theorem dL_law_733 : decode cL_law 733 = .ok (.iadd, 1) := by decide +kernel
theorem dL_law_734 : decode cL_law 734 = .ok (.iaload, 1) := by decide +kernel
theorem dL_law_735 : decode cL_law 735 = .ok (.aload_n 0, 1) := by decide +kernel
theorem dL_law_736 : decode cL_law 736 = .ok (.iload_n 3, 1) := by decide +kernel
theorem dL_law_737 : decode cL_law 737 = .ok (.iconst 2, 1) := by decide +kernel
theorem dL_law_738 : decode cL_law 738 = .ok (.iadd, 1) := by decide +kernel
theorem dL_law_739 : decode cL_law 739 = .ok (.iaload, 1) := by decide +kernel
theorem dL_law_740 : decode cL_law 740 = .ok (.invokevirtual 93, 3) := by decide +kernel
theorem dL_law_743 : decode cL_law 743 = .ok (.if_icmp .eq 562, 3) := by decide +kernel
theorem dL_law_746 : decode cL_law 746 = .ok (.iconst 0, 1) := by decide +kernel
theorem dL_law_747 : decode cL_law 747 = .ok (.ireturn, 1) := by decide +kernel
theorem dL_law_748 : decode cL_law 748 = .ok (.aload_n 1, 1) := by decide +kernel
theorem dL_law_749 : decode cL_law 749 = .ok (.aload_n 0, 1) := by decide +kernel
theorem dL_law_750 : decode cL_law 750 = .ok (.iload_n 3, 1) := by decide +kernel
theorem dL_law_751 : decode cL_law 751 = .ok (.iconst 1, 1) := by decide +kernel
theorem dL_law_752 : decode cL_law 752 = .ok (.iadd, 1) := by decide +kernel
theorem dL_law_753 : decode cL_law 753 = .ok (.iaload, 1) := by decide +kernel
theorem dL_law_754 : decode cL_law 754 = .ok (.aload_n 0, 1) := by decide +kernel
theorem dL_law_755 : decode cL_law 755 = .ok (.iload_n 3, 1) := by decide +kernel
theorem dL_law_756 : decode cL_law 756 = .ok (.iconst 2, 1) := by decide +kernel
theorem dL_law_757 : decode cL_law 757 = .ok (.iadd, 1) := by decide +kernel
theorem dL_law_758 : decode cL_law 758 = .ok (.iaload, 1) := by decide +kernel
theorem dL_law_759 : decode cL_law 759 = .ok (.aload_n 0, 1) := by decide +kernel
theorem dL_law_760 : decode cL_law 760 = .ok (.iload_n 3, 1) := by decide +kernel
theorem dL_law_761 : decode cL_law 761 = .ok (.iconst 3, 1) := by decide +kernel
theorem dL_law_762 : decode cL_law 762 = .ok (.iadd, 1) := by decide +kernel
theorem dL_law_763 : decode cL_law 763 = .ok (.iaload, 1) := by decide +kernel
theorem dL_law_764 : decode cL_law 764 = .ok (.aload_n 0, 1) := by decide +kernel
theorem dL_law_765 : decode cL_law 765 = .ok (.iload_n 3, 1) := by decide +kernel
theorem dL_law_766 : decode cL_law 766 = .ok (.iconst 4, 1) := by decide +kernel
theorem dL_law_767 : decode cL_law 767 = .ok (.iadd, 1) := by decide +kernel
theorem dL_law_768 : decode cL_law 768 = .ok (.iaload, 1) := by decide +kernel
theorem dL_law_769 : decode cL_law 769 = .ok (.invokevirtual 94, 3) := by decide +kernel
theorem dL_law_772 : decode cL_law 772 = .ok (.aload_n 2, 1) := by decide +kernel
theorem dL_law_773 : decode cL_law 773 = .ok (.aload_n 0, 1) := by decide +kernel
theorem dL_law_774 : decode cL_law 774 = .ok (.iload_n 3, 1) := by decide +kernel
theorem dL_law_775 : decode cL_law 775 = .ok (.iconst 1, 1) := by decide +kernel
theorem dL_law_776 : decode cL_law 776 = .ok (.iadd, 1) := by decide +kernel
theorem dL_law_777 : decode cL_law 777 = .ok (.iaload, 1) := by decide +kernel
theorem dL_law_778 : decode cL_law 778 = .ok (.aload_n 0, 1) := by decide +kernel
theorem dL_law_779 : decode cL_law 779 = .ok (.iload_n 3, 1) := by decide +kernel
theorem dL_law_780 : decode cL_law 780 = .ok (.iconst 2, 1) := by decide +kernel
theorem dL_law_781 : decode cL_law 781 = .ok (.iadd, 1) := by decide +kernel
theorem dL_law_782 : decode cL_law 782 = .ok (.iaload, 1) := by decide +kernel
theorem dL_law_783 : decode cL_law 783 = .ok (.aload_n 0, 1) := by decide +kernel
theorem dL_law_784 : decode cL_law 784 = .ok (.iload_n 3, 1) := by decide +kernel
theorem dL_law_785 : decode cL_law 785 = .ok (.iconst 3, 1) := by decide +kernel
theorem dL_law_786 : decode cL_law 786 = .ok (.iadd, 1) := by decide +kernel
theorem dL_law_787 : decode cL_law 787 = .ok (.iaload, 1) := by decide +kernel
theorem dL_law_788 : decode cL_law 788 = .ok (.aload_n 0, 1) := by decide +kernel
theorem dL_law_789 : decode cL_law 789 = .ok (.iload_n 3, 1) := by decide +kernel
theorem dL_law_790 : decode cL_law 790 = .ok (.iconst 4, 1) := by decide +kernel
theorem dL_law_791 : decode cL_law 791 = .ok (.iadd, 1) := by decide +kernel
theorem dL_law_792 : decode cL_law 792 = .ok (.iaload, 1) := by decide +kernel
theorem dL_law_793 : decode cL_law 793 = .ok (.invokevirtual 97, 3) := by decide +kernel
theorem dL_law_796 : decode cL_law 796 = .ok (.if_icmp .eq 509, 3) := by decide +kernel
theorem dL_law_799 : decode cL_law 799 = .ok (.iconst 0, 1) := by decide +kernel
theorem dL_law_800 : decode cL_law 800 = .ok (.ireturn, 1) := by decide +kernel
theorem dL_law_801 : decode cL_law 801 = .ok (.aload_n 1, 1) := by decide +kernel
theorem dL_law_802 : decode cL_law 802 = .ok (.aload_n 0, 1) := by decide +kernel
theorem dL_law_803 : decode cL_law 803 = .ok (.iload_n 3, 1) := by decide +kernel
theorem dL_law_804 : decode cL_law 804 = .ok (.iconst 1, 1) := by decide +kernel
theorem dL_law_805 : decode cL_law 805 = .ok (.iadd, 1) := by decide +kernel
theorem dL_law_806 : decode cL_law 806 = .ok (.iaload, 1) := by decide +kernel
theorem dL_law_807 : decode cL_law 807 = .ok (.aload_n 0, 1) := by decide +kernel
theorem dL_law_808 : decode cL_law 808 = .ok (.iload_n 3, 1) := by decide +kernel
theorem dL_law_809 : decode cL_law 809 = .ok (.iconst 2, 1) := by decide +kernel
theorem dL_law_810 : decode cL_law 810 = .ok (.iadd, 1) := by decide +kernel
theorem dL_law_811 : decode cL_law 811 = .ok (.iaload, 1) := by decide +kernel
theorem dL_law_812 : decode cL_law 812 = .ok (.aload_n 0, 1) := by decide +kernel
theorem dL_law_813 : decode cL_law 813 = .ok (.iload_n 3, 1) := by decide +kernel
theorem dL_law_814 : decode cL_law 814 = .ok (.iconst 3, 1) := by decide +kernel
theorem dL_law_815 : decode cL_law 815 = .ok (.iadd, 1) := by decide +kernel
theorem dL_law_816 : decode cL_law 816 = .ok (.iaload, 1) := by decide +kernel
theorem dL_law_817 : decode cL_law 817 = .ok (.aload_n 0, 1) := by decide +kernel
theorem dL_law_818 : decode cL_law 818 = .ok (.iload_n 3, 1) := by decide +kernel
theorem dL_law_819 : decode cL_law 819 = .ok (.iconst 4, 1) := by decide +kernel
theorem dL_law_820 : decode cL_law 820 = .ok (.iadd, 1) := by decide +kernel
theorem dL_law_821 : decode cL_law 821 = .ok (.iaload, 1) := by decide +kernel
theorem dL_law_822 : decode cL_law 822 = .ok (.aload_n 0, 1) := by decide +kernel
theorem dL_law_823 : decode cL_law 823 = .ok (.iload_n 3, 1) := by decide +kernel
theorem dL_law_824 : decode cL_law 824 = .ok (.iconst 5, 1) := by decide +kernel
theorem dL_law_825 : decode cL_law 825 = .ok (.iadd, 1) := by decide +kernel
theorem dL_law_826 : decode cL_law 826 = .ok (.iaload, 1) := by decide +kernel
theorem dL_law_827 : decode cL_law 827 = .ok (.invokevirtual 98, 3) := by decide +kernel
theorem dL_law_830 : decode cL_law 830 = .ok (.aload_n 2, 1) := by decide +kernel
theorem dL_law_831 : decode cL_law 831 = .ok (.aload_n 0, 1) := by decide +kernel
theorem dL_law_832 : decode cL_law 832 = .ok (.iload_n 3, 1) := by decide +kernel
theorem dL_law_833 : decode cL_law 833 = .ok (.iconst 1, 1) := by decide +kernel
theorem dL_law_834 : decode cL_law 834 = .ok (.iadd, 1) := by decide +kernel
theorem dL_law_835 : decode cL_law 835 = .ok (.iaload, 1) := by decide +kernel
theorem dL_law_836 : decode cL_law 836 = .ok (.aload_n 0, 1) := by decide +kernel
theorem dL_law_837 : decode cL_law 837 = .ok (.iload_n 3, 1) := by decide +kernel
theorem dL_law_838 : decode cL_law 838 = .ok (.iconst 2, 1) := by decide +kernel
theorem dL_law_839 : decode cL_law 839 = .ok (.iadd, 1) := by decide +kernel
theorem dL_law_840 : decode cL_law 840 = .ok (.iaload, 1) := by decide +kernel
theorem dL_law_841 : decode cL_law 841 = .ok (.aload_n 0, 1) := by decide +kernel
theorem dL_law_842 : decode cL_law 842 = .ok (.iload_n 3, 1) := by decide +kernel
theorem dL_law_843 : decode cL_law 843 = .ok (.iconst 3, 1) := by decide +kernel
theorem dL_law_844 : decode cL_law 844 = .ok (.iadd, 1) := by decide +kernel
theorem dL_law_845 : decode cL_law 845 = .ok (.iaload, 1) := by decide +kernel
theorem dL_law_846 : decode cL_law 846 = .ok (.aload_n 0, 1) := by decide +kernel
theorem dL_law_847 : decode cL_law 847 = .ok (.iload_n 3, 1) := by decide +kernel
theorem dL_law_848 : decode cL_law 848 = .ok (.iconst 4, 1) := by decide +kernel
theorem dL_law_849 : decode cL_law 849 = .ok (.iadd, 1) := by decide +kernel
theorem dL_law_850 : decode cL_law 850 = .ok (.iaload, 1) := by decide +kernel
theorem dL_law_851 : decode cL_law 851 = .ok (.aload_n 0, 1) := by decide +kernel
theorem dL_law_852 : decode cL_law 852 = .ok (.iload_n 3, 1) := by decide +kernel
theorem dL_law_853 : decode cL_law 853 = .ok (.iconst 5, 1) := by decide +kernel
theorem dL_law_854 : decode cL_law 854 = .ok (.iadd, 1) := by decide +kernel
theorem dL_law_855 : decode cL_law 855 = .ok (.iaload, 1) := by decide +kernel
theorem dL_law_856 : decode cL_law 856 = .ok (.invokevirtual 102, 3) := by decide +kernel
theorem dL_law_859 : decode cL_law 859 = .ok (.lcmp, 1) := by decide +kernel
theorem dL_law_860 : decode cL_law 860 = .ok (.ifCond .eq 445, 3) := by decide +kernel
theorem dL_law_863 : decode cL_law 863 = .ok (.iconst 0, 1) := by decide +kernel
theorem dL_law_864 : decode cL_law 864 = .ok (.ireturn, 1) := by decide +kernel
theorem dL_law_865 : decode cL_law 865 = .ok (.aload_n 1, 1) := by decide +kernel
theorem dL_law_866 : decode cL_law 866 = .ok (.aload_n 0, 1) := by decide +kernel
theorem dL_law_867 : decode cL_law 867 = .ok (.iload_n 3, 1) := by decide +kernel
theorem dL_law_868 : decode cL_law 868 = .ok (.iconst 1, 1) := by decide +kernel
theorem dL_law_869 : decode cL_law 869 = .ok (.iadd, 1) := by decide +kernel
theorem dL_law_870 : decode cL_law 870 = .ok (.iaload, 1) := by decide +kernel
theorem dL_law_871 : decode cL_law 871 = .ok (.aload_n 0, 1) := by decide +kernel
theorem dL_law_872 : decode cL_law 872 = .ok (.iload_n 3, 1) := by decide +kernel
theorem dL_law_873 : decode cL_law 873 = .ok (.iconst 2, 1) := by decide +kernel
theorem dL_law_874 : decode cL_law 874 = .ok (.iadd, 1) := by decide +kernel
theorem dL_law_875 : decode cL_law 875 = .ok (.iaload, 1) := by decide +kernel
theorem dL_law_876 : decode cL_law 876 = .ok (.aload_n 0, 1) := by decide +kernel
theorem dL_law_877 : decode cL_law 877 = .ok (.iload_n 3, 1) := by decide +kernel
theorem dL_law_878 : decode cL_law 878 = .ok (.iconst 3, 1) := by decide +kernel
theorem dL_law_879 : decode cL_law 879 = .ok (.iadd, 1) := by decide +kernel
theorem dL_law_880 : decode cL_law 880 = .ok (.iaload, 1) := by decide +kernel
theorem dL_law_881 : decode cL_law 881 = .ok (.invokevirtual 103, 3) := by decide +kernel
theorem dL_law_884 : decode cL_law 884 = .ok (.aload_n 2, 1) := by decide +kernel
theorem dL_law_885 : decode cL_law 885 = .ok (.aload_n 0, 1) := by decide +kernel
theorem dL_law_886 : decode cL_law 886 = .ok (.iload_n 3, 1) := by decide +kernel
theorem dL_law_887 : decode cL_law 887 = .ok (.iconst 1, 1) := by decide +kernel
theorem dL_law_888 : decode cL_law 888 = .ok (.iadd, 1) := by decide +kernel
theorem dL_law_889 : decode cL_law 889 = .ok (.iaload, 1) := by decide +kernel
theorem dL_law_890 : decode cL_law 890 = .ok (.aload_n 0, 1) := by decide +kernel
theorem dL_law_891 : decode cL_law 891 = .ok (.iload_n 3, 1) := by decide +kernel
theorem dL_law_892 : decode cL_law 892 = .ok (.iconst 2, 1) := by decide +kernel
theorem dL_law_893 : decode cL_law 893 = .ok (.iadd, 1) := by decide +kernel
theorem dL_law_894 : decode cL_law 894 = .ok (.iaload, 1) := by decide +kernel
theorem dL_law_895 : decode cL_law 895 = .ok (.aload_n 0, 1) := by decide +kernel
theorem dL_law_896 : decode cL_law 896 = .ok (.iload_n 3, 1) := by decide +kernel
theorem dL_law_897 : decode cL_law 897 = .ok (.iconst 3, 1) := by decide +kernel
theorem dL_law_898 : decode cL_law 898 = .ok (.iadd, 1) := by decide +kernel
theorem dL_law_899 : decode cL_law 899 = .ok (.iaload, 1) := by decide +kernel
theorem dL_law_900 : decode cL_law 900 = .ok (.invokevirtual 106, 3) := by decide +kernel
theorem dL_law_903 : decode cL_law 903 = .ok (.lcmp, 1) := by decide +kernel
theorem dL_law_904 : decode cL_law 904 = .ok (.ifCond .eq 401, 3) := by decide +kernel
theorem dL_law_907 : decode cL_law 907 = .ok (.iconst 0, 1) := by decide +kernel
theorem dL_law_908 : decode cL_law 908 = .ok (.ireturn, 1) := by decide +kernel
theorem dL_law_909 : decode cL_law 909 = .ok (.aload_n 1, 1) := by decide +kernel
theorem dL_law_910 : decode cL_law 910 = .ok (.aload_n 0, 1) := by decide +kernel
theorem dL_law_911 : decode cL_law 911 = .ok (.iload_n 3, 1) := by decide +kernel
theorem dL_law_912 : decode cL_law 912 = .ok (.iconst 1, 1) := by decide +kernel
theorem dL_law_913 : decode cL_law 913 = .ok (.iadd, 1) := by decide +kernel
theorem dL_law_914 : decode cL_law 914 = .ok (.iaload, 1) := by decide +kernel
theorem dL_law_915 : decode cL_law 915 = .ok (.aload_n 0, 1) := by decide +kernel
theorem dL_law_916 : decode cL_law 916 = .ok (.iload_n 3, 1) := by decide +kernel
theorem dL_law_917 : decode cL_law 917 = .ok (.iconst 2, 1) := by decide +kernel
theorem dL_law_918 : decode cL_law 918 = .ok (.iadd, 1) := by decide +kernel
theorem dL_law_919 : decode cL_law 919 = .ok (.iaload, 1) := by decide +kernel
theorem dL_law_920 : decode cL_law 920 = .ok (.invokevirtual 107, 3) := by decide +kernel
theorem dL_law_923 : decode cL_law 923 = .ok (.aload_n 2, 1) := by decide +kernel
theorem dL_law_924 : decode cL_law 924 = .ok (.aload_n 0, 1) := by decide +kernel
theorem dL_law_925 : decode cL_law 925 = .ok (.iload_n 3, 1) := by decide +kernel
theorem dL_law_926 : decode cL_law 926 = .ok (.iconst 1, 1) := by decide +kernel
theorem dL_law_927 : decode cL_law 927 = .ok (.iadd, 1) := by decide +kernel
theorem dL_law_928 : decode cL_law 928 = .ok (.iaload, 1) := by decide +kernel
theorem dL_law_929 : decode cL_law 929 = .ok (.aload_n 0, 1) := by decide +kernel
theorem dL_law_930 : decode cL_law 930 = .ok (.iload_n 3, 1) := by decide +kernel
theorem dL_law_931 : decode cL_law 931 = .ok (.iconst 2, 1) := by decide +kernel
theorem dL_law_932 : decode cL_law 932 = .ok (.iadd, 1) := by decide +kernel
theorem dL_law_933 : decode cL_law 933 = .ok (.iaload, 1) := by decide +kernel
theorem dL_law_934 : decode cL_law 934 = .ok (.invokevirtual 110, 3) := by decide +kernel
theorem dL_law_937 : decode cL_law 937 = .ok (.if_icmp .eq 368, 3) := by decide +kernel
theorem dL_law_940 : decode cL_law 940 = .ok (.iconst 0, 1) := by decide +kernel
theorem dL_law_941 : decode cL_law 941 = .ok (.ireturn, 1) := by decide +kernel
theorem dL_law_942 : decode cL_law 942 = .ok (.aload_n 1, 1) := by decide +kernel
theorem dL_law_943 : decode cL_law 943 = .ok (.aload_n 0, 1) := by decide +kernel
theorem dL_law_944 : decode cL_law 944 = .ok (.iload_n 3, 1) := by decide +kernel
theorem dL_law_945 : decode cL_law 945 = .ok (.iconst 1, 1) := by decide +kernel
theorem dL_law_946 : decode cL_law 946 = .ok (.iadd, 1) := by decide +kernel
theorem dL_law_947 : decode cL_law 947 = .ok (.iaload, 1) := by decide +kernel
theorem dL_law_948 : decode cL_law 948 = .ok (.aload_n 0, 1) := by decide +kernel
theorem dL_law_949 : decode cL_law 949 = .ok (.iload_n 3, 1) := by decide +kernel
theorem dL_law_950 : decode cL_law 950 = .ok (.iconst 2, 1) := by decide +kernel
theorem dL_law_951 : decode cL_law 951 = .ok (.iadd, 1) := by decide +kernel
theorem dL_law_952 : decode cL_law 952 = .ok (.iaload, 1) := by decide +kernel
theorem dL_law_953 : decode cL_law 953 = .ok (.aload_n 0, 1) := by decide +kernel
theorem dL_law_954 : decode cL_law 954 = .ok (.iload_n 3, 1) := by decide +kernel
theorem dL_law_955 : decode cL_law 955 = .ok (.iconst 3, 1) := by decide +kernel
theorem dL_law_956 : decode cL_law 956 = .ok (.iadd, 1) := by decide +kernel
theorem dL_law_957 : decode cL_law 957 = .ok (.iaload, 1) := by decide +kernel
theorem dL_law_958 : decode cL_law 958 = .ok (.invokevirtual 111, 3) := by decide +kernel
theorem dL_law_961 : decode cL_law 961 = .ok (.aload_n 2, 1) := by decide +kernel
theorem dL_law_962 : decode cL_law 962 = .ok (.aload_n 0, 1) := by decide +kernel
theorem dL_law_963 : decode cL_law 963 = .ok (.iload_n 3, 1) := by decide +kernel
theorem dL_law_964 : decode cL_law 964 = .ok (.iconst 1, 1) := by decide +kernel
theorem dL_law_965 : decode cL_law 965 = .ok (.iadd, 1) := by decide +kernel
theorem dL_law_966 : decode cL_law 966 = .ok (.iaload, 1) := by decide +kernel
theorem dL_law_967 : decode cL_law 967 = .ok (.aload_n 0, 1) := by decide +kernel
theorem dL_law_968 : decode cL_law 968 = .ok (.iload_n 3, 1) := by decide +kernel
theorem dL_law_969 : decode cL_law 969 = .ok (.iconst 2, 1) := by decide +kernel
theorem dL_law_970 : decode cL_law 970 = .ok (.iadd, 1) := by decide +kernel
theorem dL_law_971 : decode cL_law 971 = .ok (.iaload, 1) := by decide +kernel
theorem dL_law_972 : decode cL_law 972 = .ok (.aload_n 0, 1) := by decide +kernel
theorem dL_law_973 : decode cL_law 973 = .ok (.iload_n 3, 1) := by decide +kernel
theorem dL_law_974 : decode cL_law 974 = .ok (.iconst 3, 1) := by decide +kernel
theorem dL_law_975 : decode cL_law 975 = .ok (.iadd, 1) := by decide +kernel
theorem dL_law_976 : decode cL_law 976 = .ok (.iaload, 1) := by decide +kernel
theorem dL_law_977 : decode cL_law 977 = .ok (.invokevirtual 115, 3) := by decide +kernel
theorem dL_law_980 : decode cL_law 980 = .ok (.if_icmp .eq 325, 3) := by decide +kernel
theorem dL_law_983 : decode cL_law 983 = .ok (.iconst 0, 1) := by decide +kernel
theorem dL_law_984 : decode cL_law 984 = .ok (.ireturn, 1) := by decide +kernel
theorem dL_law_985 : decode cL_law 985 = .ok (.aload_n 1, 1) := by decide +kernel
theorem dL_law_986 : decode cL_law 986 = .ok (.aload_n 0, 1) := by decide +kernel
theorem dL_law_987 : decode cL_law 987 = .ok (.iload_n 3, 1) := by decide +kernel
theorem dL_law_988 : decode cL_law 988 = .ok (.iconst 1, 1) := by decide +kernel
theorem dL_law_989 : decode cL_law 989 = .ok (.iadd, 1) := by decide +kernel
theorem dL_law_990 : decode cL_law 990 = .ok (.iaload, 1) := by decide +kernel
theorem dL_law_991 : decode cL_law 991 = .ok (.aload_n 0, 1) := by decide +kernel
theorem dL_law_992 : decode cL_law 992 = .ok (.iload_n 3, 1) := by decide +kernel
theorem dL_law_993 : decode cL_law 993 = .ok (.iconst 2, 1) := by decide +kernel
theorem dL_law_994 : decode cL_law 994 = .ok (.iadd, 1) := by decide +kernel
theorem dL_law_995 : decode cL_law 995 = .ok (.iaload, 1) := by decide +kernel
theorem dL_law_996 : decode cL_law 996 = .ok (.aload_n 0, 1) := by decide +kernel
theorem dL_law_997 : decode cL_law 997 = .ok (.iload_n 3, 1) := by decide +kernel
theorem dL_law_998 : decode cL_law 998 = .ok (.iconst 3, 1) := by decide +kernel
theorem dL_law_999 : decode cL_law 999 = .ok (.iadd, 1) := by decide +kernel
theorem dL_law_1000 : decode cL_law 1000 = .ok (.iaload, 1) := by decide +kernel
theorem dL_law_1001 : decode cL_law 1001 = .ok (.i2l, 1) := by decide +kernel
theorem dL_law_1002 : decode cL_law 1002 = .ok (.bipush 32, 2) := by decide +kernel
theorem dL_law_1004 : decode cL_law 1004 = .ok (.lshl, 1) := by decide +kernel
theorem dL_law_1005 : decode cL_law 1005 = .ok (.aload_n 0, 1) := by decide +kernel
theorem dL_law_1006 : decode cL_law 1006 = .ok (.iload_n 3, 1) := by decide +kernel
theorem dL_law_1007 : decode cL_law 1007 = .ok (.iconst 4, 1) := by decide +kernel
theorem dL_law_1008 : decode cL_law 1008 = .ok (.iadd, 1) := by decide +kernel
theorem dL_law_1009 : decode cL_law 1009 = .ok (.iaload, 1) := by decide +kernel
theorem dL_law_1010 : decode cL_law 1010 = .ok (.i2l, 1) := by decide +kernel
theorem dL_law_1011 : decode cL_law 1011 = .ok (.ldc2_w 35, 3) := by decide +kernel
theorem dL_law_1014 : decode cL_law 1014 = .ok (.land, 1) := by decide +kernel
theorem dL_law_1015 : decode cL_law 1015 = .ok (.lor, 1) := by decide +kernel
theorem dL_law_1016 : decode cL_law 1016 = .ok (.invokevirtual 116, 3) := by decide +kernel
theorem dL_law_1019 : decode cL_law 1019 = .ok (.aload_n 2, 1) := by decide +kernel
theorem dL_law_1020 : decode cL_law 1020 = .ok (.aload_n 0, 1) := by decide +kernel
theorem dL_law_1021 : decode cL_law 1021 = .ok (.iload_n 3, 1) := by decide +kernel
theorem dL_law_1022 : decode cL_law 1022 = .ok (.iconst 1, 1) := by decide +kernel
theorem dL_law_1023 : decode cL_law 1023 = .ok (.iadd, 1) := by decide +kernel
theorem dL_law_1024 : decode cL_law 1024 = .ok (.iaload, 1) := by decide +kernel
theorem dL_law_1025 : decode cL_law 1025 = .ok (.aload_n 0, 1) := by decide +kernel
theorem dL_law_1026 : decode cL_law 1026 = .ok (.iload_n 3, 1) := by decide +kernel
theorem dL_law_1027 : decode cL_law 1027 = .ok (.iconst 2, 1) := by decide +kernel
theorem dL_law_1028 : decode cL_law 1028 = .ok (.iadd, 1) := by decide +kernel
theorem dL_law_1029 : decode cL_law 1029 = .ok (.iaload, 1) := by decide +kernel
theorem dL_law_1030 : decode cL_law 1030 = .ok (.aload_n 0, 1) := by decide +kernel
theorem dL_law_1031 : decode cL_law 1031 = .ok (.iload_n 3, 1) := by decide +kernel
theorem dL_law_1032 : decode cL_law 1032 = .ok (.iconst 3, 1) := by decide +kernel
theorem dL_law_1033 : decode cL_law 1033 = .ok (.iadd, 1) := by decide +kernel
theorem dL_law_1034 : decode cL_law 1034 = .ok (.iaload, 1) := by decide +kernel
theorem dL_law_1035 : decode cL_law 1035 = .ok (.i2l, 1) := by decide +kernel
theorem dL_law_1036 : decode cL_law 1036 = .ok (.bipush 32, 2) := by decide +kernel
theorem dL_law_1038 : decode cL_law 1038 = .ok (.lshl, 1) := by decide +kernel
theorem dL_law_1039 : decode cL_law 1039 = .ok (.aload_n 0, 1) := by decide +kernel
theorem dL_law_1040 : decode cL_law 1040 = .ok (.iload_n 3, 1) := by decide +kernel
theorem dL_law_1041 : decode cL_law 1041 = .ok (.iconst 4, 1) := by decide +kernel
theorem dL_law_1042 : decode cL_law 1042 = .ok (.iadd, 1) := by decide +kernel
theorem dL_law_1043 : decode cL_law 1043 = .ok (.iaload, 1) := by decide +kernel
theorem dL_law_1044 : decode cL_law 1044 = .ok (.i2l, 1) := by decide +kernel
theorem dL_law_1045 : decode cL_law 1045 = .ok (.ldc2_w 35, 3) := by decide +kernel
theorem dL_law_1048 : decode cL_law 1048 = .ok (.land, 1) := by decide +kernel
theorem dL_law_1049 : decode cL_law 1049 = .ok (.lor, 1) := by decide +kernel
theorem dL_law_1050 : decode cL_law 1050 = .ok (.invokevirtual 120, 3) := by decide +kernel
theorem dL_law_1053 : decode cL_law 1053 = .ok (.if_icmp .eq 252, 3) := by decide +kernel
theorem dL_law_1056 : decode cL_law 1056 = .ok (.iconst 0, 1) := by decide +kernel
theorem dL_law_1057 : decode cL_law 1057 = .ok (.ireturn, 1) := by decide +kernel
theorem dL_law_1058 : decode cL_law 1058 = .ok (.aload_n 1, 1) := by decide +kernel
theorem dL_law_1059 : decode cL_law 1059 = .ok (.aload_n 0, 1) := by decide +kernel
theorem dL_law_1060 : decode cL_law 1060 = .ok (.iload_n 3, 1) := by decide +kernel
theorem dL_law_1061 : decode cL_law 1061 = .ok (.iconst 1, 1) := by decide +kernel
theorem dL_law_1062 : decode cL_law 1062 = .ok (.iadd, 1) := by decide +kernel
theorem dL_law_1063 : decode cL_law 1063 = .ok (.iaload, 1) := by decide +kernel
theorem dL_law_1064 : decode cL_law 1064 = .ok (.aload_n 0, 1) := by decide +kernel
theorem dL_law_1065 : decode cL_law 1065 = .ok (.iload_n 3, 1) := by decide +kernel
theorem dL_law_1066 : decode cL_law 1066 = .ok (.iconst 2, 1) := by decide +kernel
theorem dL_law_1067 : decode cL_law 1067 = .ok (.iadd, 1) := by decide +kernel
theorem dL_law_1068 : decode cL_law 1068 = .ok (.iaload, 1) := by decide +kernel
theorem dL_law_1069 : decode cL_law 1069 = .ok (.aload_n 0, 1) := by decide +kernel
theorem dL_law_1070 : decode cL_law 1070 = .ok (.iload_n 3, 1) := by decide +kernel
theorem dL_law_1071 : decode cL_law 1071 = .ok (.iconst 3, 1) := by decide +kernel
theorem dL_law_1072 : decode cL_law 1072 = .ok (.iadd, 1) := by decide +kernel
theorem dL_law_1073 : decode cL_law 1073 = .ok (.iaload, 1) := by decide +kernel
theorem dL_law_1074 : decode cL_law 1074 = .ok (.invokevirtual 121, 3) := by decide +kernel
theorem dL_law_1077 : decode cL_law 1077 = .ok (.aload_n 2, 1) := by decide +kernel
theorem dL_law_1078 : decode cL_law 1078 = .ok (.aload_n 0, 1) := by decide +kernel
theorem dL_law_1079 : decode cL_law 1079 = .ok (.iload_n 3, 1) := by decide +kernel
theorem dL_law_1080 : decode cL_law 1080 = .ok (.iconst 1, 1) := by decide +kernel
theorem dL_law_1081 : decode cL_law 1081 = .ok (.iadd, 1) := by decide +kernel
theorem dL_law_1082 : decode cL_law 1082 = .ok (.iaload, 1) := by decide +kernel
theorem dL_law_1083 : decode cL_law 1083 = .ok (.aload_n 0, 1) := by decide +kernel
theorem dL_law_1084 : decode cL_law 1084 = .ok (.iload_n 3, 1) := by decide +kernel
theorem dL_law_1085 : decode cL_law 1085 = .ok (.iconst 2, 1) := by decide +kernel
theorem dL_law_1086 : decode cL_law 1086 = .ok (.iadd, 1) := by decide +kernel
theorem dL_law_1087 : decode cL_law 1087 = .ok (.iaload, 1) := by decide +kernel
theorem dL_law_1088 : decode cL_law 1088 = .ok (.aload_n 0, 1) := by decide +kernel
theorem dL_law_1089 : decode cL_law 1089 = .ok (.iload_n 3, 1) := by decide +kernel
theorem dL_law_1090 : decode cL_law 1090 = .ok (.iconst 3, 1) := by decide +kernel
theorem dL_law_1091 : decode cL_law 1091 = .ok (.iadd, 1) := by decide +kernel
theorem dL_law_1092 : decode cL_law 1092 = .ok (.iaload, 1) := by decide +kernel
theorem dL_law_1093 : decode cL_law 1093 = .ok (.invokevirtual 124, 3) := by decide +kernel
theorem dL_law_1096 : decode cL_law 1096 = .ok (.if_icmp .eq 209, 3) := by decide +kernel
theorem dL_law_1099 : decode cL_law 1099 = .ok (.iconst 0, 1) := by decide +kernel
theorem dL_law_1100 : decode cL_law 1100 = .ok (.ireturn, 1) := by decide +kernel
theorem dL_law_1101 : decode cL_law 1101 = .ok (.aload_n 1, 1) := by decide +kernel
theorem dL_law_1102 : decode cL_law 1102 = .ok (.aload_n 0, 1) := by decide +kernel
theorem dL_law_1103 : decode cL_law 1103 = .ok (.iload_n 3, 1) := by decide +kernel
theorem dL_law_1104 : decode cL_law 1104 = .ok (.iconst 1, 1) := by decide +kernel
theorem dL_law_1105 : decode cL_law 1105 = .ok (.iadd, 1) := by decide +kernel
theorem dL_law_1106 : decode cL_law 1106 = .ok (.iaload, 1) := by decide +kernel
theorem dL_law_1107 : decode cL_law 1107 = .ok (.aload_n 0, 1) := by decide +kernel
theorem dL_law_1108 : decode cL_law 1108 = .ok (.iload_n 3, 1) := by decide +kernel
theorem dL_law_1109 : decode cL_law 1109 = .ok (.iconst 2, 1) := by decide +kernel
theorem dL_law_1110 : decode cL_law 1110 = .ok (.iadd, 1) := by decide +kernel
theorem dL_law_1111 : decode cL_law 1111 = .ok (.iaload, 1) := by decide +kernel
theorem dL_law_1112 : decode cL_law 1112 = .ok (.invokevirtual 125, 3) := by decide +kernel
theorem dL_law_1115 : decode cL_law 1115 = .ok (.aload_n 2, 1) := by decide +kernel
theorem dL_law_1116 : decode cL_law 1116 = .ok (.aload_n 0, 1) := by decide +kernel
theorem dL_law_1117 : decode cL_law 1117 = .ok (.iload_n 3, 1) := by decide +kernel
theorem dL_law_1118 : decode cL_law 1118 = .ok (.iconst 1, 1) := by decide +kernel
theorem dL_law_1119 : decode cL_law 1119 = .ok (.iadd, 1) := by decide +kernel
theorem dL_law_1120 : decode cL_law 1120 = .ok (.iaload, 1) := by decide +kernel
theorem dL_law_1121 : decode cL_law 1121 = .ok (.aload_n 0, 1) := by decide +kernel
theorem dL_law_1122 : decode cL_law 1122 = .ok (.iload_n 3, 1) := by decide +kernel
theorem dL_law_1123 : decode cL_law 1123 = .ok (.iconst 2, 1) := by decide +kernel
theorem dL_law_1124 : decode cL_law 1124 = .ok (.iadd, 1) := by decide +kernel
theorem dL_law_1125 : decode cL_law 1125 = .ok (.iaload, 1) := by decide +kernel
theorem dL_law_1126 : decode cL_law 1126 = .ok (.invokevirtual 128, 3) := by decide +kernel
theorem dL_law_1129 : decode cL_law 1129 = .ok (.if_icmp .eq 176, 3) := by decide +kernel
theorem dL_law_1132 : decode cL_law 1132 = .ok (.iconst 0, 1) := by decide +kernel
theorem dL_law_1133 : decode cL_law 1133 = .ok (.ireturn, 1) := by decide +kernel
theorem dL_law_1134 : decode cL_law 1134 = .ok (.aload_n 1, 1) := by decide +kernel
theorem dL_law_1135 : decode cL_law 1135 = .ok (.aload_n 0, 1) := by decide +kernel
theorem dL_law_1136 : decode cL_law 1136 = .ok (.iload_n 3, 1) := by decide +kernel
theorem dL_law_1137 : decode cL_law 1137 = .ok (.iconst 1, 1) := by decide +kernel
theorem dL_law_1138 : decode cL_law 1138 = .ok (.iadd, 1) := by decide +kernel
theorem dL_law_1139 : decode cL_law 1139 = .ok (.iaload, 1) := by decide +kernel
theorem dL_law_1140 : decode cL_law 1140 = .ok (.aload_n 0, 1) := by decide +kernel
theorem dL_law_1141 : decode cL_law 1141 = .ok (.iload_n 3, 1) := by decide +kernel
theorem dL_law_1142 : decode cL_law 1142 = .ok (.iconst 2, 1) := by decide +kernel
theorem dL_law_1143 : decode cL_law 1143 = .ok (.iadd, 1) := by decide +kernel
theorem dL_law_1144 : decode cL_law 1144 = .ok (.iaload, 1) := by decide +kernel
theorem dL_law_1145 : decode cL_law 1145 = .ok (.invokevirtual 129, 3) := by decide +kernel
theorem dL_law_1148 : decode cL_law 1148 = .ok (.aload_n 2, 1) := by decide +kernel
theorem dL_law_1149 : decode cL_law 1149 = .ok (.aload_n 0, 1) := by decide +kernel
theorem dL_law_1150 : decode cL_law 1150 = .ok (.iload_n 3, 1) := by decide +kernel
theorem dL_law_1151 : decode cL_law 1151 = .ok (.iconst 1, 1) := by decide +kernel
theorem dL_law_1152 : decode cL_law 1152 = .ok (.iadd, 1) := by decide +kernel
theorem dL_law_1153 : decode cL_law 1153 = .ok (.iaload, 1) := by decide +kernel
theorem dL_law_1154 : decode cL_law 1154 = .ok (.aload_n 0, 1) := by decide +kernel
theorem dL_law_1155 : decode cL_law 1155 = .ok (.iload_n 3, 1) := by decide +kernel
theorem dL_law_1156 : decode cL_law 1156 = .ok (.iconst 2, 1) := by decide +kernel
theorem dL_law_1157 : decode cL_law 1157 = .ok (.iadd, 1) := by decide +kernel
theorem dL_law_1158 : decode cL_law 1158 = .ok (.iaload, 1) := by decide +kernel
theorem dL_law_1159 : decode cL_law 1159 = .ok (.invokevirtual 132, 3) := by decide +kernel
theorem dL_law_1162 : decode cL_law 1162 = .ok (.if_icmp .eq 143, 3) := by decide +kernel
theorem dL_law_1165 : decode cL_law 1165 = .ok (.iconst 0, 1) := by decide +kernel
theorem dL_law_1166 : decode cL_law 1166 = .ok (.ireturn, 1) := by decide +kernel
theorem dL_law_1167 : decode cL_law 1167 = .ok (.aload_n 1, 1) := by decide +kernel
theorem dL_law_1168 : decode cL_law 1168 = .ok (.aload_n 0, 1) := by decide +kernel
theorem dL_law_1169 : decode cL_law 1169 = .ok (.iload_n 3, 1) := by decide +kernel
theorem dL_law_1170 : decode cL_law 1170 = .ok (.iconst 1, 1) := by decide +kernel
theorem dL_law_1171 : decode cL_law 1171 = .ok (.iadd, 1) := by decide +kernel
theorem dL_law_1172 : decode cL_law 1172 = .ok (.iaload, 1) := by decide +kernel
theorem dL_law_1173 : decode cL_law 1173 = .ok (.aload_n 0, 1) := by decide +kernel
theorem dL_law_1174 : decode cL_law 1174 = .ok (.iload_n 3, 1) := by decide +kernel
theorem dL_law_1175 : decode cL_law 1175 = .ok (.iconst 2, 1) := by decide +kernel
theorem dL_law_1176 : decode cL_law 1176 = .ok (.iadd, 1) := by decide +kernel
theorem dL_law_1177 : decode cL_law 1177 = .ok (.iaload, 1) := by decide +kernel
theorem dL_law_1178 : decode cL_law 1178 = .ok (.aload_n 0, 1) := by decide +kernel
theorem dL_law_1179 : decode cL_law 1179 = .ok (.iload_n 3, 1) := by decide +kernel
theorem dL_law_1180 : decode cL_law 1180 = .ok (.iconst 3, 1) := by decide +kernel
theorem dL_law_1181 : decode cL_law 1181 = .ok (.iadd, 1) := by decide +kernel
theorem dL_law_1182 : decode cL_law 1182 = .ok (.iaload, 1) := by decide +kernel
theorem dL_law_1183 : decode cL_law 1183 = .ok (.invokevirtual 133, 3) := by decide +kernel
theorem dL_law_1186 : decode cL_law 1186 = .ok (.aload_n 2, 1) := by decide +kernel
theorem dL_law_1187 : decode cL_law 1187 = .ok (.aload_n 0, 1) := by decide +kernel
theorem dL_law_1188 : decode cL_law 1188 = .ok (.iload_n 3, 1) := by decide +kernel
theorem dL_law_1189 : decode cL_law 1189 = .ok (.iconst 1, 1) := by decide +kernel
theorem dL_law_1190 : decode cL_law 1190 = .ok (.iadd, 1) := by decide +kernel
theorem dL_law_1191 : decode cL_law 1191 = .ok (.iaload, 1) := by decide +kernel
theorem dL_law_1192 : decode cL_law 1192 = .ok (.aload_n 0, 1) := by decide +kernel
theorem dL_law_1193 : decode cL_law 1193 = .ok (.iload_n 3, 1) := by decide +kernel
theorem dL_law_1194 : decode cL_law 1194 = .ok (.iconst 2, 1) := by decide +kernel
theorem dL_law_1195 : decode cL_law 1195 = .ok (.iadd, 1) := by decide +kernel
theorem dL_law_1196 : decode cL_law 1196 = .ok (.iaload, 1) := by decide +kernel
theorem dL_law_1197 : decode cL_law 1197 = .ok (.aload_n 0, 1) := by decide +kernel
theorem dL_law_1198 : decode cL_law 1198 = .ok (.iload_n 3, 1) := by decide +kernel
theorem dL_law_1199 : decode cL_law 1199 = .ok (.iconst 3, 1) := by decide +kernel
theorem dL_law_1200 : decode cL_law 1200 = .ok (.iadd, 1) := by decide +kernel
theorem dL_law_1201 : decode cL_law 1201 = .ok (.iaload, 1) := by decide +kernel
theorem dL_law_1202 : decode cL_law 1202 = .ok (.invokevirtual 136, 3) := by decide +kernel
theorem dL_law_1205 : decode cL_law 1205 = .ok (.if_icmp .eq 100, 3) := by decide +kernel
theorem dL_law_1208 : decode cL_law 1208 = .ok (.iconst 0, 1) := by decide +kernel
theorem dL_law_1209 : decode cL_law 1209 = .ok (.ireturn, 1) := by decide +kernel
theorem dL_law_1210 : decode cL_law 1210 = .ok (.aload_n 1, 1) := by decide +kernel
theorem dL_law_1211 : decode cL_law 1211 = .ok (.aload_n 0, 1) := by decide +kernel
theorem dL_law_1212 : decode cL_law 1212 = .ok (.iload_n 3, 1) := by decide +kernel
theorem dL_law_1213 : decode cL_law 1213 = .ok (.iconst 1, 1) := by decide +kernel
theorem dL_law_1214 : decode cL_law 1214 = .ok (.iadd, 1) := by decide +kernel
theorem dL_law_1215 : decode cL_law 1215 = .ok (.iaload, 1) := by decide +kernel
theorem dL_law_1216 : decode cL_law 1216 = .ok (.invokevirtual 137, 3) := by decide +kernel
theorem dL_law_1219 : decode cL_law 1219 = .ok (.aload_n 2, 1) := by decide +kernel
theorem dL_law_1220 : decode cL_law 1220 = .ok (.aload_n 0, 1) := by decide +kernel
theorem dL_law_1221 : decode cL_law 1221 = .ok (.iload_n 3, 1) := by decide +kernel
theorem dL_law_1222 : decode cL_law 1222 = .ok (.iconst 1, 1) := by decide +kernel
theorem dL_law_1223 : decode cL_law 1223 = .ok (.iadd, 1) := by decide +kernel
theorem dL_law_1224 : decode cL_law 1224 = .ok (.iaload, 1) := by decide +kernel
theorem dL_law_1225 : decode cL_law 1225 = .ok (.invokevirtual 140, 3) := by decide +kernel
theorem dL_law_1228 : decode cL_law 1228 = .ok (.if_icmp .eq 77, 3) := by decide +kernel
theorem dL_law_1231 : decode cL_law 1231 = .ok (.iconst 0, 1) := by decide +kernel
theorem dL_law_1232 : decode cL_law 1232 = .ok (.ireturn, 1) := by decide +kernel
theorem dL_law_1233 : decode cL_law 1233 = .ok (.aload_n 1, 1) := by decide +kernel
theorem dL_law_1234 : decode cL_law 1234 = .ok (.aload_n 0, 1) := by decide +kernel
theorem dL_law_1235 : decode cL_law 1235 = .ok (.iload_n 3, 1) := by decide +kernel
theorem dL_law_1236 : decode cL_law 1236 = .ok (.iconst 1, 1) := by decide +kernel
theorem dL_law_1237 : decode cL_law 1237 = .ok (.iadd, 1) := by decide +kernel
theorem dL_law_1238 : decode cL_law 1238 = .ok (.iaload, 1) := by decide +kernel
theorem dL_law_1239 : decode cL_law 1239 = .ok (.invokevirtual 141, 3) := by decide +kernel
theorem dL_law_1242 : decode cL_law 1242 = .ok (.aload_n 2, 1) := by decide +kernel
theorem dL_law_1243 : decode cL_law 1243 = .ok (.aload_n 0, 1) := by decide +kernel
theorem dL_law_1244 : decode cL_law 1244 = .ok (.iload_n 3, 1) := by decide +kernel
theorem dL_law_1245 : decode cL_law 1245 = .ok (.iconst 1, 1) := by decide +kernel
theorem dL_law_1246 : decode cL_law 1246 = .ok (.iadd, 1) := by decide +kernel
theorem dL_law_1247 : decode cL_law 1247 = .ok (.iaload, 1) := by decide +kernel
theorem dL_law_1248 : decode cL_law 1248 = .ok (.invokevirtual 144, 3) := by decide +kernel
theorem dL_law_1251 : decode cL_law 1251 = .ok (.if_icmp .eq 54, 3) := by decide +kernel
theorem dL_law_1254 : decode cL_law 1254 = .ok (.iconst 0, 1) := by decide +kernel
theorem dL_law_1255 : decode cL_law 1255 = .ok (.ireturn, 1) := by decide +kernel
theorem dL_law_1256 : decode cL_law 1256 = .ok (.aload_n 1, 1) := by decide +kernel
theorem dL_law_1257 : decode cL_law 1257 = .ok (.aload_n 0, 1) := by decide +kernel
theorem dL_law_1258 : decode cL_law 1258 = .ok (.iload_n 3, 1) := by decide +kernel
theorem dL_law_1259 : decode cL_law 1259 = .ok (.iconst 1, 1) := by decide +kernel
theorem dL_law_1260 : decode cL_law 1260 = .ok (.iadd, 1) := by decide +kernel
theorem dL_law_1261 : decode cL_law 1261 = .ok (.iaload, 1) := by decide +kernel
theorem dL_law_1262 : decode cL_law 1262 = .ok (.invokevirtual 145, 3) := by decide +kernel
theorem dL_law_1265 : decode cL_law 1265 = .ok (.aload_n 2, 1) := by decide +kernel
theorem dL_law_1266 : decode cL_law 1266 = .ok (.aload_n 0, 1) := by decide +kernel
theorem dL_law_1267 : decode cL_law 1267 = .ok (.iload_n 3, 1) := by decide +kernel
theorem dL_law_1268 : decode cL_law 1268 = .ok (.iconst 1, 1) := by decide +kernel
theorem dL_law_1269 : decode cL_law 1269 = .ok (.iadd, 1) := by decide +kernel
theorem dL_law_1270 : decode cL_law 1270 = .ok (.iaload, 1) := by decide +kernel
theorem dL_law_1271 : decode cL_law 1271 = .ok (.invokevirtual 148, 3) := by decide +kernel
theorem dL_law_1274 : decode cL_law 1274 = .ok (.if_icmp .eq 31, 3) := by decide +kernel
theorem dL_law_1277 : decode cL_law 1277 = .ok (.iconst 0, 1) := by decide +kernel
theorem dL_law_1278 : decode cL_law 1278 = .ok (.ireturn, 1) := by decide +kernel
theorem dL_law_1279 : decode cL_law 1279 = .ok (.aload_n 1, 1) := by decide +kernel
theorem dL_law_1280 : decode cL_law 1280 = .ok (.invokevirtual 149, 3) := by decide +kernel
theorem dL_law_1283 : decode cL_law 1283 = .ok (.aload_n 2, 1) := by decide +kernel
theorem dL_law_1284 : decode cL_law 1284 = .ok (.invokevirtual 152, 3) := by decide +kernel
theorem dL_law_1287 : decode cL_law 1287 = .ok (.if_icmp .eq 18, 3) := by decide +kernel
theorem dL_law_1290 : decode cL_law 1290 = .ok (.iconst 0, 1) := by decide +kernel
theorem dL_law_1291 : decode cL_law 1291 = .ok (.ireturn, 1) := by decide +kernel
theorem dL_law_1292 : decode cL_law 1292 = .ok (.aload_n 1, 1) := by decide +kernel
theorem dL_law_1293 : decode cL_law 1293 = .ok (.invokevirtual 153, 3) := by decide +kernel
theorem dL_law_1296 : decode cL_law 1296 = .ok (.aload_n 2, 1) := by decide +kernel
theorem dL_law_1297 : decode cL_law 1297 = .ok (.invokevirtual 156, 3) := by decide +kernel
theorem dL_law_1300 : decode cL_law 1300 = .ok (.if_icmp .eq 5, 3) := by decide +kernel
theorem dL_law_1303 : decode cL_law 1303 = .ok (.iconst 0, 1) := by decide +kernel
theorem dL_law_1304 : decode cL_law 1304 = .ok (.ireturn, 1) := by decide +kernel
theorem dL_law_1305 : decode cL_law 1305 = .ok (.iinc 3 6, 3) := by decide +kernel
theorem dL_law_1308 : decode cL_law 1308 = .ok (.goto (-1290), 3) := by decide +kernel
theorem dL_law_1311 : decode cL_law 1311 = .ok (.iconst 1, 1) := by decide +kernel
theorem dL_law_1312 : decode cL_law 1312 = .ok (.ireturn, 1) := by decide +kernel
end
section
/-! THE WORLD OF ONE RUN, in my own words. All cells that the run makes lie from the address b on, the h-th at b + h: a cell is spoken of by its handle h.
A world is (N, K, R, I, J): how many cells; of each its kind (class, or 20 + the sort of array) and length; what refs, ints and longs lie at (handle, place). -/
abbrev am_W : Type := Nat × (Nat → Nat × Nat) × (Nat → Nat → Option Nat) × (Nat → Nat → Int32) × (Nat → Nat → Int64)
/-- what stays through a run: the classes' numbers, the arrays' classes, b, where the String constants lie (1000000 and on), a static that is handed on unread -/
abbrev am_G : Type := va_G × (Nat → ClassId) × Nat × (Nat → Nat) × Value
/-- a method: name, code, how many locals, what it returns -/
abbrev am_M : Type := MethodName × ByteArray × Nat × Option FieldType
/-- where a walk stands: program, launch, env, state, method, args, frames below, its class's method, its code, what is to come -/
abbrev am_X : Type := Program × Launch × Env × State × MethodId × Array Value × List Frame × Method × Code × (State → Prop)
def am_b (G : am_G) : Nat := G.2.2.1
def am_rf (G : am_G) (h : Nat) : Nat := if h < 1000000 then am_b G + h else G.2.2.2.1 (h - 1000000)
def am_cv (G : am_G) : Value → Value
  | .ref h => .ref (am_rf G h)
  | v => v
theorem am_cat (G : am_G) (v : Value) : (am_cv G v).category = v.category := by cases v <;> rfl
def am_ty : Nat → Nat → FieldType := fun c k => match c with
  | 0 => tyX0 k
  | 1 => tyX1 k
  | 2 => tyX2 k
  | 3 => tyX3 k
  | 4 => tyX4 k
  | 5 => tyX5 k
  | 6 => tyX6 k
  | 7 => tyX7 k
  | 8 => tyX8 k
  | 9 => tyX9 k
  | 10 => tyX10 k
  | 11 => tyX11 k
  | 20 => .int
  | 21 => .long
  | 22 => .byte
  | 23 => .boolean
  | 24 => .object "VectorWays$Parts"
  | _ => .object "VectorWays$Sheet"
def am_val (G : am_G) (w : am_W) (t : FieldType) (h k : Nat) : Value := match t with
  | .long => .long (w.2.2.2.2 h k)
  | .object _ => va_rf ((w.2.2.1 h k).map (am_rf G))
  | .array _ => va_rf ((w.2.2.1 h k).map (am_rf G))
  | _ => .int (w.2.2.2.1 h k)
def am_nf : Nat → Nat := fun c => (vwCl.getD c ("", TX0, 0)).2.2
def am_cell (G : am_G) (w : am_W) (H : Heap) (h : Nat) : Prop :=
  if (w.2.1 h).1 < 20 then t_OB (am_b G + h) (G.1.1 (w.2.1 h).1) (am_nf (w.2.1 h).1) (G.1.2 (w.2.1 h).1) H (fun k => am_val G w (am_ty (w.2.1 h).1 k) h k)
  else H[am_b G + h]? = some (arrV (G.2.1 ((w.2.1 h).1 - 20)) (w.2.1 h).2 (fun k => am_val G w (am_ty (w.2.1 h).1 k) h k))
def am_H (G : am_G) (w : am_W) (H : Heap) : Prop := H.size = am_b G + w.1 ∧ w.1 ≤ 1000000 ∧ ∀ h, h < w.1 → am_cell G w H h
def am_L (G : am_G) (ls : Array Slot) (nL : Nat) (L : List (Option Value)) : Prop := ls.size = nL ∧ lv_wf ls ∧ ∀ (j : Nat) (v : Value), L[j]? = some (some v) → ls[j]? = some (.val (am_cv G v))
/-- which cells may change -/
def am_F (G : am_G) : Nat → Prop := fun q => am_b G ≤ q
abbrev am_s (X : am_X) : State := X.2.2.2.1
/-- from here, with these locals, stack and world, the machine comes to what is to come -/
def am_A (G : am_G) (M : am_M) (X : am_X) (R : Room) (pc : Nat) (L : List (Option Value)) (st : List Value) (w : am_W) (c n : Nat) : Prop :=
  ∀ (H : Heap) (locs : List Loc) (ls : Array Slot), am_H G w H → am_L G ls M.2.2.1 L → va_S (am_F G) (am_s X).heap H locs →
    W X.1 X.2.1 X.2.2.1 R X.2.2.2.1 X.2.2.2.2.1 X.2.2.2.2.2.1 X.2.2.2.2.2.2.1 X.2.2.2.2.2.2.2.1 X.2.2.2.2.2.2.2.2.1 H locs c n X.2.2.2.2.2.2.2.2.2 (F0 X.2.2.2.2.1 pc ls (st.map (am_cv G)))
/-- the words that hold wherever a method of this claim begins -/
def am_ws : List Cond := lw_tbl.filter goodWord
def am_nest : List Cond := tables_1.filter (fun w => match w with | .fieldLinkNest _ _ _ _ _ _ => true | .methodLinkNest _ _ _ _ => true | _ => false)
def am_tys (G : am_G) : List (ClassId × FieldType) := [(G.2.1 0, .int), (G.2.1 1, .long), (G.2.1 2, .byte), (G.2.1 3, .boolean), (G.2.1 4, .object "VectorWays$Parts"), (G.2.1 5, .object "VectorWays$Sheet")]
/-- the String constants: how long, which bytes -/
def am_len : List Nat := [3, 3, 1, 4, 5, 2, 2, 3, 2, 1]
def am_byt : List (List Int32) := [[110, 111, 116], [97, 110, 121], [40], [109, 111, 115, 116], [108, 101, 97, 115, 116], [98, 121], [105, 115], [97, 110, 100], [111, 114], [41]]
def am_sk : List (Nat × String) := [(80, "not"), (89, "any"), (94, "("), (99, "most"), (101, "least"), (103, "by"), (105, "is"), (111, "and"), (113, "or"), (115, ")")]
def am_E (G : am_G) (U : State) : Prop := va_K G.1 vwCl (am_tys G) U ∧ (∀ w ∈ am_nest, va_Nw w U) ∧ va_AO "VectorWays$Parts" U ∧ va_AO "VectorWays$Sheet" U ∧ vk_S 10 am_len am_byt (fun i => G.2.2.2.1 i) (fun i => G.2.2.2.1 (10 + i)) (am_F G) U U.heap ∧ (∀ i q, am_sk[i]? = some q → vk_R "VectorWays$RuleReader" q.1 q.2 (G.2.2.2.1 i) U) ∧ va_Z "java/lang/String" "COMPACT_STRINGS" "Z" (.int 1) (am_F G) U U.heap ∧ va_Z "jdk/internal/util/Preconditions" "SIOOBE_FORMATTER" "Ljava/util/function/BiFunction;" (am_cv G G.2.2.2.2) (am_F G) U U.heap ∧ (G.2.2.2.2 = .null ∨ G.2.2.2.2 = .ref 1000020)
/-- what is so throughout a walk of method M -/
def am_C (G : am_G) (M : am_M) (X : am_X) : Prop := X.1.tables.exec = Jvm.exec ∧ X.2.2.2.2.2.2.2.2.1.code = M.2.1 ∧ X.2.2.2.2.2.2.2.1.sig.returnType = M.2.2.2 ∧ X.2.2.2.2.2.2.2.2.1.maxLocals = M.2.2.1 ∧ (am_s X).vm.findClass M.1.cls = some X.2.2.2.2.1.cls ∧ (∀ w ∈ am_ws, w.before X.2.2.2.2.2.1 (am_s X) = true) ∧ X.2.2.2.2.2.2.2.1.locks = false ∧ am_E G (am_s X) ∧ am_b G ≤ (am_s X).heap.size ∧ (M.1.name = "<init>" → X.2.2.2.2.2.2.2.1.name = "<init>")
/-- one value of one slot, one of two slots, is stored -/
def am_st1 (L : List (Option Value)) (i : Nat) (v : Value) : List (Option Value) := match i with
  | 0 => L.set 0 (some v)
  | j + 1 => match L[j]? with
    | some (some (.long _)) => (L.set (j + 1) (some v)).set j none
    | _ => L.set (j + 1) (some v)
def am_st2 (L : List (Option Value)) (i : Nat) (v : Value) : List (Option Value) := (am_st1 L i v).set (i + 1) none
/-- all locals as the kit lists them -/
def am_lv (G : am_G) (L : List (Option Value)) : List (Nat × Value) := (List.range L.length).filterMap (fun j => match L[j]? with | some (some v) => some (j, am_cv G v) | _ => none)
theorem am_lv_mem {G : am_G} {L : List (Option Value)} {q : Nat × Value} (h : q ∈ am_lv G L) : ∃ v, L[q.1]? = some (some v) ∧ q.2 = am_cv G v := by
  obtain ⟨j, -, hj⟩ := List.mem_filterMap.mp h
  split at hj
  next v hv => cases hj; exact ⟨v, hv, rfl⟩
  next => cases hj
theorem am_lv_of {G : am_G} {L : List (Option Value)} {j : Nat} {v : Value} (h : L[j]? = some (some v)) : (j, am_cv G v) ∈ am_lv G L := by
  refine List.mem_filterMap.mpr ⟨j, List.mem_range.mpr (List.getElem?_eq_some_iff.mp h).1, ?_⟩
  rw [h]
theorem am_L.has {G : am_G} {ls : Array Slot} {nL : Nat} {L : List (Option Value)} (h : am_L G ls nL L) : lv_has ls nL (am_lv G L) := by
  refine ⟨h.1, h.2.1, fun q hq => ?_⟩
  obtain ⟨v, h1, h2⟩ := am_lv_mem hq
  rw [h2]
  exact h.2.2 _ _ h1
theorem am_L.of {G : am_G} {ls : Array Slot} {nL : Nat} {L : List (Option Value)} {l : List (Nat × Value)} (h : lv_has ls nL l) (hl : ∀ (j : Nat) (v : Value), L[j]? = some (some v) → (j, am_cv G v) ∈ l) : am_L G ls nL L :=
  ⟨h.1, h.2.1, fun j v hj => h.2.2 _ (hl j v hj)⟩
theorem am_st1_get {L : List (Option Value)} {i j : Nat} {v x : Value} (h : (am_st1 L i v)[j]? = some (some x)) : (j = i ∧ x = v) ∨ (j ≠ i ∧ L[j]? = some (some x) ∧ ¬ (j + 1 = i ∧ ∃ y, x = .long y)) := by
  unfold am_st1 at h
  split at h
  · rw [List.getElem?_set] at h
    by_cases hj : 0 = j
    · rw [if_pos hj] at h
      split at h
      · cases h; exact Or.inl ⟨hj.symm, rfl⟩
      · cases h
    · rw [if_neg hj] at h
      exact Or.inr ⟨fun e => hj e.symm, h, fun e => by omega⟩
  next k =>
    split at h
    next y hy =>
      rw [List.getElem?_set] at h
      by_cases hk : k = j
      · rw [if_pos hk] at h
        split at h
        · cases h
        · cases h
      · rw [if_neg hk, List.getElem?_set] at h
        by_cases hj : k + 1 = j
        · rw [if_pos hj] at h
          split at h
          · cases h; exact Or.inl ⟨hj.symm, rfl⟩
          · cases h
        · rw [if_neg hj] at h
          exact Or.inr ⟨fun e => hj e.symm, h, fun e => hk (by omega)⟩
    next hno =>
      rw [List.getElem?_set] at h
      by_cases hj : k + 1 = j
      · rw [if_pos hj] at h
        split at h
        · cases h; exact Or.inl ⟨hj.symm, rfl⟩
        · cases h
      · rw [if_neg hj] at h
        refine Or.inr ⟨fun e => hj e.symm, h, fun e => ?_⟩
        obtain ⟨e1, y, rfl⟩ := e
        have : j = k := by omega
        subst this
        exact hno y h
theorem am_L.st1 {G : am_G} {nL i : Nat} {v : Value} {L : List (Option Value)} {ls' : Array Slot} (hc : v.category = 1) (hx : ∀ (j : Nat) (x : Value), L[j]? = some (some x) → x.category = 2 → ∃ y, x = .long y)
    (h : lv_has ls' nL ((i, am_cv G v) :: (am_lv G L).filter (fun q => !(q.1 == i) && !(q.1 + 1 == i && q.2.category == 2)))) : am_L G ls' nL (am_st1 L i v) := by
  refine am_L.of h fun j x hj => ?_
  rcases am_st1_get hj with ⟨rfl, rfl⟩ | ⟨h1, h2, h3⟩
  · exact List.mem_cons_self
  · refine List.mem_cons_of_mem _ (List.mem_filter.mpr ⟨am_lv_of h2, ?_⟩)
    have h4 : ¬ (j + 1 = i ∧ x.category = 2) := fun e => h3 ⟨e.1, hx j x h2 e.2⟩
    simp only [am_cat, Bool.and_eq_true, Bool.not_eq_true', beq_eq_false_iff_ne, ne_eq, Bool.and_eq_false_iff]
    refine ⟨h1, ?_⟩
    by_cases e : j + 1 = i
    · exact Or.inr fun e2 => h4 ⟨e, e2⟩
    · exact Or.inl e
theorem am_L.st2 {G : am_G} {nL i : Nat} {v : Value} {L : List (Option Value)} {ls' : Array Slot} (hx : ∀ (j : Nat) (x : Value), L[j]? = some (some x) → x.category = 2 → ∃ y, x = .long y)
    (h : lv_has ls' nL ((i, am_cv G v) :: (am_lv G L).filter (fun q => !(q.1 == i) && (!(q.1 == i + 1) && !(q.1 + 1 == i && q.2.category == 2))))) : am_L G ls' nL (am_st2 L i v) := by
  refine am_L.of h fun j x hj => ?_
  unfold am_st2 at hj
  rw [List.getElem?_set] at hj
  by_cases hi : i + 1 = j
  · rw [if_pos hi] at hj
    split at hj
    · cases hj
    · cases hj
  · rw [if_neg hi] at hj
    rcases am_st1_get hj with ⟨rfl, rfl⟩ | ⟨h1, h2, h3⟩
    · exact List.mem_cons_self
    · refine List.mem_cons_of_mem _ (List.mem_filter.mpr ⟨am_lv_of h2, ?_⟩)
      have h4 : ¬ (j + 1 = i ∧ x.category = 2) := fun e => h3 ⟨e.1, hx j x h2 e.2⟩
      simp only [am_cat, Bool.and_eq_true, Bool.not_eq_true', beq_eq_false_iff_ne, ne_eq, Bool.and_eq_false_iff]
      refine ⟨h1, fun e => hi e.symm, ?_⟩
      by_cases e : j + 1 = i
      · exact Or.inr fun e2 => h4 ⟨e, e2⟩
      · exact Or.inl e
/-- locals hold no doubles here -/
def am_nd (L : List (Option Value)) : Bool := L.all (fun x => match x with | some (.double _) => false | _ => true)
theorem am_nd_ok {L : List (Option Value)} (h : am_nd L = true) : ∀ (j : Nat) (x : Value), L[j]? = some (some x) → x.category = 2 → ∃ y, x = .long y := by
  intro j x hj hc
  have h1 := List.all_eq_true.mp h _ (List.mem_of_getElem? hj)
  cases x <;> first | exact ⟨_, rfl⟩ | (simp [Value.category] at hc; done) | (simp at h1; done)
section AM
variable {G : am_G} {M : am_M} {X : am_X} {R : Room} {pc q : Nat} {L : List (Option Value)} {st : List Value} {w : am_W} {c n : Nat}
theorem am_widen {c' n' : Nat} (h1 : c ≤ c') (h2 : n ≤ n') (k : am_A G M X R pc L st w c' n') : am_A G M X R pc L st w c n := fun H locs ls hH hL hS => W.widen h1 h2 (k H locs ls hH hL hS)
theorem am_eq {st' : List Value} {w' : am_W} (h1 : st = st') (h2 : w = w') (k : am_A G M X R pc L st' w' c n) : am_A G M X R pc L st w c n := by
  subst h1; subst h2; exact k
theorem am_iadd {x y : Int32} (C : am_C G M X) (hd : decode M.2.1 pc = .ok (.iadd, 1)) (hq : pc + 1 = q) (k : am_A G M X R q L (.int (x + y) :: st) w c n) : am_A G M X R pc L (.int y :: .int x :: st) w c n := by
  subst hq
  exact fun H locs ls hH hL hS => lv_iadd C.1 C.2.1 hd (k H locs ls hH hL hS)
theorem am_isub {x y : Int32} (C : am_C G M X) (hd : decode M.2.1 pc = .ok (.isub, 1)) (hq : pc + 1 = q) (k : am_A G M X R q L (.int (x - y) :: st) w c n) : am_A G M X R pc L (.int y :: .int x :: st) w c n := by
  subst hq
  exact fun H locs ls hH hL hS => lv_isub C.1 C.2.1 hd (k H locs ls hH hL hS)
theorem am_imul {x y : Int32} (C : am_C G M X) (hd : decode M.2.1 pc = .ok (.imul, 1)) (hq : pc + 1 = q) (k : am_A G M X R q L (.int (x * y) :: st) w c n) : am_A G M X R pc L (.int y :: .int x :: st) w c n := by
  subst hq
  exact fun H locs ls hH hL hS => lv_imul C.1 C.2.1 hd (k H locs ls hH hL hS)
theorem am_iand {x y : Int32} (C : am_C G M X) (hd : decode M.2.1 pc = .ok (.iand, 1)) (hq : pc + 1 = q) (k : am_A G M X R q L (.int (x &&& y) :: st) w c n) : am_A G M X R pc L (.int y :: .int x :: st) w c n := by
  subst hq
  exact fun H locs ls hH hL hS => lv_iand C.1 C.2.1 hd (k H locs ls hH hL hS)
theorem am_ior {x y : Int32} (C : am_C G M X) (hd : decode M.2.1 pc = .ok (.ior, 1)) (hq : pc + 1 = q) (k : am_A G M X R q L (.int (x ||| y) :: st) w c n) : am_A G M X R pc L (.int y :: .int x :: st) w c n := by
  subst hq
  exact fun H locs ls hH hL hS => lv_ior C.1 C.2.1 hd (k H locs ls hH hL hS)
theorem am_ixor {x y : Int32} (C : am_C G M X) (hd : decode M.2.1 pc = .ok (.ixor, 1)) (hq : pc + 1 = q) (k : am_A G M X R q L (.int (x ^^^ y) :: st) w c n) : am_A G M X R pc L (.int y :: .int x :: st) w c n := by
  subst hq
  exact fun H locs ls hH hL hS => lv_ixor C.1 C.2.1 hd (k H locs ls hH hL hS)
theorem am_ladd {x y : Int64} (C : am_C G M X) (hd : decode M.2.1 pc = .ok (.ladd, 1)) (hq : pc + 1 = q) (k : am_A G M X R q L (.long (x + y) :: st) w c n) : am_A G M X R pc L (.long y :: .long x :: st) w c n := by
  subst hq
  exact fun H locs ls hH hL hS => lv_ladd C.1 C.2.1 hd (k H locs ls hH hL hS)
theorem am_lsub {x y : Int64} (C : am_C G M X) (hd : decode M.2.1 pc = .ok (.lsub, 1)) (hq : pc + 1 = q) (k : am_A G M X R q L (.long (x - y) :: st) w c n) : am_A G M X R pc L (.long y :: .long x :: st) w c n := by
  subst hq
  exact fun H locs ls hH hL hS => lv_lsub C.1 C.2.1 hd (k H locs ls hH hL hS)
theorem am_lmul {x y : Int64} (C : am_C G M X) (hd : decode M.2.1 pc = .ok (.lmul, 1)) (hq : pc + 1 = q) (k : am_A G M X R q L (.long (x * y) :: st) w c n) : am_A G M X R pc L (.long y :: .long x :: st) w c n := by
  subst hq
  exact fun H locs ls hH hL hS => lv_lmul C.1 C.2.1 hd (k H locs ls hH hL hS)
theorem am_land {x y : Int64} (C : am_C G M X) (hd : decode M.2.1 pc = .ok (.land, 1)) (hq : pc + 1 = q) (k : am_A G M X R q L (.long (x &&& y) :: st) w c n) : am_A G M X R pc L (.long y :: .long x :: st) w c n := by
  subst hq
  exact fun H locs ls hH hL hS => lv_land C.1 C.2.1 hd (k H locs ls hH hL hS)
theorem am_lor {x y : Int64} (C : am_C G M X) (hd : decode M.2.1 pc = .ok (.lor, 1)) (hq : pc + 1 = q) (k : am_A G M X R q L (.long (x ||| y) :: st) w c n) : am_A G M X R pc L (.long y :: .long x :: st) w c n := by
  subst hq
  exact fun H locs ls hH hL hS => lv_lor C.1 C.2.1 hd (k H locs ls hH hL hS)
theorem am_lxor {x y : Int64} (C : am_C G M X) (hd : decode M.2.1 pc = .ok (.lxor, 1)) (hq : pc + 1 = q) (k : am_A G M X R q L (.long (x ^^^ y) :: st) w c n) : am_A G M X R pc L (.long y :: .long x :: st) w c n := by
  subst hq
  exact fun H locs ls hH hL hS => lv_lxor C.1 C.2.1 hd (k H locs ls hH hL hS)
end AM
end
section
/-- what Java's shifts, remainder and comparison of longs are -/
def jushrL (x : Int64) (y : Int32) : Int64 := (x.toUInt64 >>> (y.toInt64.toUInt64 &&& Int64.toUInt64 63)).toInt64
def jshlL (x : Int64) (y : Int32) : Int64 := x <<< (y.toInt64 &&& 63)
def jshrL (x : Int64) (y : Int32) : Int64 := x >>> (y.toInt64 &&& 63)
def jushr (x y : Int32) : Int32 := (x.toUInt32 >>> (y.toUInt32 &&& Int32.toUInt32 31)).toInt32
def jshl (x y : Int32) : Int32 := x <<< (y &&& 31)
def jshr (x y : Int32) : Int32 := x >>> (y &&& 31)
def jrem (x y : Int32) : Int32 := x - x / y * y
section AM
variable {G : am_G} {M : am_M} {X : am_X} {R : Room} {pc q : Nat} {L : List (Option Value)} {st : List Value} {w : am_W} {c n : Nat}
theorem am_idiv {x y : Int32} (C : am_C G M X) (hd : decode M.2.1 pc = .ok (.idiv, 1)) (hq : pc + 1 = q) (h0 : ¬ y = 0) (k : am_A G M X R q L (.int (x / y) :: st) w c n) : am_A G M X R pc L (.int y :: .int x :: st) w c n := by
  subst hq
  exact fun H locs ls hH hL hS => lv_idiv C.1 C.2.1 hd h0 (k H locs ls hH hL hS)
theorem am_irem {x y : Int32} (C : am_C G M X) (hd : decode M.2.1 pc = .ok (.irem, 1)) (hq : pc + 1 = q) (h0 : ¬ y = 0) (k : am_A G M X R q L (.int (jrem x y) :: st) w c n) : am_A G M X R pc L (.int y :: .int x :: st) w c n := by
  subst hq
  exact fun H locs ls hH hL hS => lv_irem C.1 C.2.1 hd h0 (k H locs ls hH hL hS)
theorem am_ldiv {x y : Int64} (C : am_C G M X) (hd : decode M.2.1 pc = .ok (.ldiv, 1)) (hq : pc + 1 = q) (h0 : ¬ y = 0) (k : am_A G M X R q L (.long (x / y) :: st) w c n) : am_A G M X R pc L (.long y :: .long x :: st) w c n := by
  subst hq
  exact fun H locs ls hH hL hS => lv_ldiv C.1 C.2.1 hd h0 (k H locs ls hH hL hS)
theorem am_ineg {x : Int32} (C : am_C G M X) (hd : decode M.2.1 pc = .ok (.ineg, 1)) (hq : pc + 1 = q) (k : am_A G M X R q L (.int (-x) :: st) w c n) : am_A G M X R pc L (.int x :: st) w c n := by
  subst hq
  exact fun H locs ls hH hL hS => lv_ineg C.1 C.2.1 hd (k H locs ls hH hL hS)
theorem am_lneg {x : Int64} (C : am_C G M X) (hd : decode M.2.1 pc = .ok (.lneg, 1)) (hq : pc + 1 = q) (k : am_A G M X R q L (.long (-x) :: st) w c n) : am_A G M X R pc L (.long x :: st) w c n := by
  subst hq
  exact fun H locs ls hH hL hS => lv_lneg C.1 C.2.1 hd (k H locs ls hH hL hS)
theorem am_ishl {x y : Int32} (C : am_C G M X) (hd : decode M.2.1 pc = .ok (.ishl, 1)) (hq : pc + 1 = q) (k : am_A G M X R q L (.int (jshl x y) :: st) w c n) : am_A G M X R pc L (.int y :: .int x :: st) w c n := by
  subst hq
  exact fun H locs ls hH hL hS => lv_ishl C.1 C.2.1 hd (k H locs ls hH hL hS)
theorem am_ishr {x y : Int32} (C : am_C G M X) (hd : decode M.2.1 pc = .ok (.ishr, 1)) (hq : pc + 1 = q) (k : am_A G M X R q L (.int (jshr x y) :: st) w c n) : am_A G M X R pc L (.int y :: .int x :: st) w c n := by
  subst hq
  exact fun H locs ls hH hL hS => lv_ishr C.1 C.2.1 hd (k H locs ls hH hL hS)
theorem am_iushr {x y : Int32} (C : am_C G M X) (hd : decode M.2.1 pc = .ok (.iushr, 1)) (hq : pc + 1 = q) (k : am_A G M X R q L (.int (jushr x y) :: st) w c n) : am_A G M X R pc L (.int y :: .int x :: st) w c n := by
  subst hq
  exact fun H locs ls hH hL hS => lv_iushr C.1 C.2.1 hd rfl (k H locs ls hH hL hS)
theorem am_lshl {x : Int64} {y : Int32} (C : am_C G M X) (hd : decode M.2.1 pc = .ok (.lshl, 1)) (hq : pc + 1 = q) (k : am_A G M X R q L (.long (jshlL x y) :: st) w c n) : am_A G M X R pc L (.int y :: .long x :: st) w c n := by
  subst hq
  exact fun H locs ls hH hL hS => lv_lshl C.1 C.2.1 hd rfl (k H locs ls hH hL hS)
theorem am_lshr {x : Int64} {y : Int32} (C : am_C G M X) (hd : decode M.2.1 pc = .ok (.lshr, 1)) (hq : pc + 1 = q) (k : am_A G M X R q L (.long (jshrL x y) :: st) w c n) : am_A G M X R pc L (.int y :: .long x :: st) w c n := by
  subst hq
  exact fun H locs ls hH hL hS => lv_lshr C.1 C.2.1 hd rfl (k H locs ls hH hL hS)
theorem am_lushr {x : Int64} {y : Int32} (C : am_C G M X) (hd : decode M.2.1 pc = .ok (.lushr, 1)) (hq : pc + 1 = q) (k : am_A G M X R q L (.long (jushrL x y) :: st) w c n) : am_A G M X R pc L (.int y :: .long x :: st) w c n := by
  subst hq
  exact fun H locs ls hH hL hS => lv_lushr C.1 C.2.1 hd rfl (k H locs ls hH hL hS)
theorem am_i2l {x : Int32} (C : am_C G M X) (hd : decode M.2.1 pc = .ok (.i2l, 1)) (hq : pc + 1 = q) (k : am_A G M X R q L (.long x.toInt64 :: st) w c n) : am_A G M X R pc L (.int x :: st) w c n := by
  subst hq
  exact fun H locs ls hH hL hS => lv_i2l C.1 C.2.1 hd rfl (k H locs ls hH hL hS)
theorem am_l2i {x : Int64} (C : am_C G M X) (hd : decode M.2.1 pc = .ok (.l2i, 1)) (hq : pc + 1 = q) (k : am_A G M X R q L (.int x.toInt32 :: st) w c n) : am_A G M X R pc L (.long x :: st) w c n := by
  subst hq
  exact fun H locs ls hH hL hS => lv_l2i C.1 C.2.1 hd rfl (k H locs ls hH hL hS)
theorem am_i2b {x : Int32} (C : am_C G M X) (hd : decode M.2.1 pc = .ok (.i2b, 1)) (hq : pc + 1 = q) (k : am_A G M X R q L (.int x.toInt8.toInt32 :: st) w c n) : am_A G M X R pc L (.int x :: st) w c n := by
  subst hq
  exact fun H locs ls hH hL hS => lv_i2b C.1 C.2.1 hd rfl (k H locs ls hH hL hS)
theorem am_i2s {x : Int32} (C : am_C G M X) (hd : decode M.2.1 pc = .ok (.i2s, 1)) (hq : pc + 1 = q) (k : am_A G M X R q L (.int x.toInt16.toInt32 :: st) w c n) : am_A G M X R pc L (.int x :: st) w c n := by
  subst hq
  exact fun H locs ls hH hL hS => lv_i2s C.1 C.2.1 hd rfl (k H locs ls hH hL hS)
theorem am_i2c {x : Int32} (C : am_C G M X) (hd : decode M.2.1 pc = .ok (.i2c, 1)) (hq : pc + 1 = q) (k : am_A G M X R q L (.int (x.toUInt32 % 65536).toInt32 :: st) w c n) : am_A G M X R pc L (.int x :: st) w c n := by
  subst hq
  exact fun H locs ls hH hL hS => lv_i2c C.1 C.2.1 hd rfl (k H locs ls hH hL hS)
theorem am_iconst {z : Int} {v : Int32} (C : am_C G M X) (hd : decode M.2.1 pc = .ok (.iconst z, 1)) (hq : pc + 1 = q) (hv : Int32.ofInt z = v) (k : am_A G M X R q L (.int v :: st) w c n) : am_A G M X R pc L (st) w c n := by
  subst hq
  exact fun H locs ls hH hL hS => lv_iconst C.1 C.2.1 hd hv (k H locs ls hH hL hS)
theorem am_bipush {z : Int} {v : Int32} (C : am_C G M X) (hd : decode M.2.1 pc = .ok (.bipush z, 2)) (hq : pc + 2 = q) (hv : (Int8.ofInt z).toInt32 = v) (k : am_A G M X R q L (.int v :: st) w c n) : am_A G M X R pc L (st) w c n := by
  subst hq
  exact fun H locs ls hH hL hS => lv_bipush C.1 C.2.1 hd hv (k H locs ls hH hL hS)
theorem am_sipush {z : Int} {v : Int32} (C : am_C G M X) (hd : decode M.2.1 pc = .ok (.sipush z, 3)) (hq : pc + 3 = q) (hv : (Int16.ofInt z).toInt32 = v) (k : am_A G M X R q L (.int v :: st) w c n) : am_A G M X R pc L (st) w c n := by
  subst hq
  exact fun H locs ls hH hL hS => lv_sipush C.1 C.2.1 hd hv (k H locs ls hH hL hS)
theorem am_lconst {z : Fin 2} {v : Int64} (C : am_C G M X) (hd : decode M.2.1 pc = .ok (.lconst z, 1)) (hq : pc + 1 = q) (hv : Int64.ofNat (z : Nat) = v) (k : am_A G M X R q L (.long v :: st) w c n) : am_A G M X R pc L (st) w c n := by
  subst hq
  exact fun H locs ls hH hL hS => lv_lconst C.1 C.2.1 hd hv (k H locs ls hH hL hS)
theorem am_null (C : am_C G M X) (hd : decode M.2.1 pc = .ok (.aconst_null, 1)) (hq : pc + 1 = q) (k : am_A G M X R q L (.null :: st) w c n) : am_A G M X R pc L (st) w c n := by
  subst hq
  exact fun H locs ls hH hL hS => lv_null C.1 C.2.1 hd (k H locs ls hH hL hS)
theorem am_ldc {i : Nat} {v : Int32} (C : am_C G M X) (hd : decode M.2.1 pc = .ok (.ldc i, 2)) (hq : pc + 2 = q) (hw : Cond.constant M.1.cls i v ∈ am_ws) (k : am_A G M X R q L (.int v :: st) w c n) : am_A G M X R pc L st w c n := by
  subst hq
  exact fun H locs ls hH hL hS => lv_ldc C.1 C.2.1 C.2.2.2.2.1 (C.2.2.2.2.2.1 _ hw) hd (k H locs ls hH hL hS)
theorem am_ldcw {i : Nat} {v : Int32} (C : am_C G M X) (hd : decode M.2.1 pc = .ok (.ldc_w i, 3)) (hq : pc + 3 = q) (hw : Cond.constant M.1.cls i v ∈ am_ws) (k : am_A G M X R q L (.int v :: st) w c n) : am_A G M X R pc L st w c n := by
  subst hq
  exact fun H locs ls hH hL hS => lv_ldcw C.1 C.2.1 C.2.2.2.2.1 (C.2.2.2.2.2.1 _ hw) hd (k H locs ls hH hL hS)
theorem am_ldc2 {i : Nat} {v : Int64} (C : am_C G M X) (hd : decode M.2.1 pc = .ok (.ldc2_w i, 3)) (hq : pc + 3 = q) (hw : Cond.constantLong M.1.cls i v ∈ am_ws) (k : am_A G M X R q L (.long v :: st) w c n) : am_A G M X R pc L st w c n := by
  subst hq
  exact fun H locs ls hH hL hS => lv_ldc2 C.1 C.2.1 C.2.2.2.2.1 (C.2.2.2.2.2.1 _ hw) hd (k H locs ls hH hL hS)
theorem am_iload_n {k4 : Fin 4} {x : Int32} (C : am_C G M X) (hd : decode M.2.1 pc = .ok (.iload_n k4, 1)) (hq : pc + 1 = q) (hl : L[(k4 : Nat)]? = some (some (.int x))) (k : am_A G M X R q L (.int x :: st) w c n) : am_A G M X R pc L st w c n := by
  subst hq
  exact fun H locs ls hH hL hS => lv_iload_n C.1 C.2.1 hd rfl (hL.2.2 _ _ hl) (k H locs ls hH hL hS)
theorem am_iload {i : Nat} {x : Int32} (C : am_C G M X) (hd : decode M.2.1 pc = .ok (.iload i, 2)) (hq : pc + 2 = q) (hl : L[i]? = some (some (.int x))) (k : am_A G M X R q L (.int x :: st) w c n) : am_A G M X R pc L st w c n := by
  subst hq
  exact fun H locs ls hH hL hS => lv_iload C.1 C.2.1 hd (hL.2.2 _ _ hl) (k H locs ls hH hL hS)
theorem am_lload_n {k4 : Fin 4} {x : Int64} (C : am_C G M X) (hd : decode M.2.1 pc = .ok (.lload_n k4, 1)) (hq : pc + 1 = q) (hl : L[(k4 : Nat)]? = some (some (.long x))) (k : am_A G M X R q L (.long x :: st) w c n) : am_A G M X R pc L st w c n := by
  subst hq
  exact fun H locs ls hH hL hS => lv_lload_n C.1 C.2.1 hd rfl (hL.2.2 _ _ hl) (k H locs ls hH hL hS)
theorem am_lload {i : Nat} {x : Int64} (C : am_C G M X) (hd : decode M.2.1 pc = .ok (.lload i, 2)) (hq : pc + 2 = q) (hl : L[i]? = some (some (.long x))) (k : am_A G M X R q L (.long x :: st) w c n) : am_A G M X R pc L st w c n := by
  subst hq
  exact fun H locs ls hH hL hS => lv_lload C.1 C.2.1 hd (hL.2.2 _ _ hl) (k H locs ls hH hL hS)
theorem am_aload_n {k4 : Fin 4} {x : Nat} (C : am_C G M X) (hd : decode M.2.1 pc = .ok (.aload_n k4, 1)) (hq : pc + 1 = q) (hl : L[(k4 : Nat)]? = some (some (.ref x))) (k : am_A G M X R q L (.ref x :: st) w c n) : am_A G M X R pc L st w c n := by
  subst hq
  exact fun H locs ls hH hL hS => lv_aload_n C.1 C.2.1 hd rfl (hL.2.2 _ _ hl) (k H locs ls hH hL hS)
theorem am_aload {i : Nat} {x : Nat} (C : am_C G M X) (hd : decode M.2.1 pc = .ok (.aload i, 2)) (hq : pc + 2 = q) (hl : L[i]? = some (some (.ref x))) (k : am_A G M X R q L (.ref x :: st) w c n) : am_A G M X R pc L st w c n := by
  subst hq
  exact fun H locs ls hH hL hS => lv_aload C.1 C.2.1 hd (hL.2.2 _ _ hl) (k H locs ls hH hL hS)
theorem am_aload_nN {k4 : Fin 4} (C : am_C G M X) (hd : decode M.2.1 pc = .ok (.aload_n k4, 1)) (hq : pc + 1 = q) (hl : L[(k4 : Nat)]? = some (some .null)) (k : am_A G M X R q L (.null :: st) w c n) : am_A G M X R pc L st w c n := by
  subst hq
  exact fun H locs ls hH hL hS => lv_aload_nN C.1 C.2.1 hd rfl (hL.2.2 _ _ hl) (k H locs ls hH hL hS)
theorem am_aloadN {i : Nat} (C : am_C G M X) (hd : decode M.2.1 pc = .ok (.aload i, 2)) (hq : pc + 2 = q) (hl : L[i]? = some (some .null)) (k : am_A G M X R q L (.null :: st) w c n) : am_A G M X R pc L st w c n := by
  subst hq
  exact fun H locs ls hH hL hS => lv_aloadN C.1 C.2.1 hd (hL.2.2 _ _ hl) (k H locs ls hH hL hS)
theorem am_istore_n {k4 : Fin 4} {x : Int32} {L' : List (Option Value)} (C : am_C G M X) (hd : decode M.2.1 pc = .ok (.istore_n k4, 1)) (hq : pc + 1 = q) (hi : (k4 : Nat) < M.2.2.1) (hn : am_nd L = true) (hs : am_st1 L (k4 : Nat) (.int x) = L') (k : am_A G M X R q L' st w c n) : am_A G M X R pc L (.int x :: st) w c n := by
  subst hq
  subst hs
  exact fun H locs ls hH hL hS => lv_istore_n C.1 C.2.1 hd rfl hL.has hi rfl (fun ls' h2 => k H locs ls' hH (am_L.st1 (v := .int x) rfl (am_nd_ok hn) h2) hS)
theorem am_istore {i : Nat} {x : Int32} {L' : List (Option Value)} (C : am_C G M X) (hd : decode M.2.1 pc = .ok (.istore i, 2)) (hq : pc + 2 = q) (hi : i < M.2.2.1) (hn : am_nd L = true) (hs : am_st1 L i (.int x) = L') (k : am_A G M X R q L' st w c n) : am_A G M X R pc L (.int x :: st) w c n := by
  subst hq
  subst hs
  exact fun H locs ls hH hL hS => lv_istore C.1 C.2.1 hd hL.has hi rfl (fun ls' h2 => k H locs ls' hH (am_L.st1 (v := .int x) rfl (am_nd_ok hn) h2) hS)
theorem am_lstore_n {k4 : Fin 4} {x : Int64} {L' : List (Option Value)} (C : am_C G M X) (hd : decode M.2.1 pc = .ok (.lstore_n k4, 1)) (hq : pc + 1 = q) (hi : (k4 : Nat) + 1 < M.2.2.1) (hn : am_nd L = true) (hs : am_st2 L (k4 : Nat) (.long x) = L') (k : am_A G M X R q L' st w c n) : am_A G M X R pc L (.long x :: st) w c n := by
  subst hq
  subst hs
  exact fun H locs ls hH hL hS => lv_lstore_n C.1 C.2.1 hd rfl hL.has hi rfl (fun ls' h2 => k H locs ls' hH (am_L.st2 (v := .long x) (am_nd_ok hn) h2) hS)
theorem am_lstore {i : Nat} {x : Int64} {L' : List (Option Value)} (C : am_C G M X) (hd : decode M.2.1 pc = .ok (.lstore i, 2)) (hq : pc + 2 = q) (hi : i + 1 < M.2.2.1) (hn : am_nd L = true) (hs : am_st2 L i (.long x) = L') (k : am_A G M X R q L' st w c n) : am_A G M X R pc L (.long x :: st) w c n := by
  subst hq
  subst hs
  exact fun H locs ls hH hL hS => lv_lstore C.1 C.2.1 hd hL.has hi rfl (fun ls' h2 => k H locs ls' hH (am_L.st2 (v := .long x) (am_nd_ok hn) h2) hS)
theorem am_astore_n {k4 : Fin 4} {x : Nat} {L' : List (Option Value)} (C : am_C G M X) (hd : decode M.2.1 pc = .ok (.astore_n k4, 1)) (hq : pc + 1 = q) (hi : (k4 : Nat) < M.2.2.1) (hn : am_nd L = true) (hs : am_st1 L (k4 : Nat) (.ref x) = L') (k : am_A G M X R q L' st w c n) : am_A G M X R pc L (.ref x :: st) w c n := by
  subst hq
  subst hs
  exact fun H locs ls hH hL hS => lv_astore_n C.1 C.2.1 hd rfl hL.has hi rfl (fun ls' h2 => k H locs ls' hH (am_L.st1 (v := .ref x) rfl (am_nd_ok hn) h2) hS)
theorem am_astore {i : Nat} {x : Nat} {L' : List (Option Value)} (C : am_C G M X) (hd : decode M.2.1 pc = .ok (.astore i, 2)) (hq : pc + 2 = q) (hi : i < M.2.2.1) (hn : am_nd L = true) (hs : am_st1 L i (.ref x) = L') (k : am_A G M X R q L' st w c n) : am_A G M X R pc L (.ref x :: st) w c n := by
  subst hq
  subst hs
  exact fun H locs ls hH hL hS => lv_astore C.1 C.2.1 hd hL.has hi rfl (fun ls' h2 => k H locs ls' hH (am_L.st1 (v := .ref x) rfl (am_nd_ok hn) h2) hS)
theorem am_astore_nN {k4 : Fin 4} {L' : List (Option Value)} (C : am_C G M X) (hd : decode M.2.1 pc = .ok (.astore_n k4, 1)) (hq : pc + 1 = q) (hi : (k4 : Nat) < M.2.2.1) (hn : am_nd L = true) (hs : am_st1 L (k4 : Nat) (.null) = L') (k : am_A G M X R q L' st w c n) : am_A G M X R pc L (.null :: st) w c n := by
  subst hq
  subst hs
  exact fun H locs ls hH hL hS => lv_astore_nN C.1 C.2.1 hd rfl hL.has hi rfl (fun ls' h2 => k H locs ls' hH (am_L.st1 (v := .null) rfl (am_nd_ok hn) h2) hS)
theorem am_astoreN {i : Nat} {L' : List (Option Value)} (C : am_C G M X) (hd : decode M.2.1 pc = .ok (.astore i, 2)) (hq : pc + 2 = q) (hi : i < M.2.2.1) (hn : am_nd L = true) (hs : am_st1 L i (.null) = L') (k : am_A G M X R q L' st w c n) : am_A G M X R pc L (.null :: st) w c n := by
  subst hq
  subst hs
  exact fun H locs ls hH hL hS => lv_astoreN C.1 C.2.1 hd hL.has hi rfl (fun ls' h2 => k H locs ls' hH (am_L.st1 (v := .null) rfl (am_nd_ok hn) h2) hS)
theorem am_iinc {i : Nat} {z : Int} {x v : Int32} {L' : List (Option Value)} (C : am_C G M X) (hd : decode M.2.1 pc = .ok (.iinc i z, 3)) (hq : pc + 3 = q) (hl : L[i]? = some (some (.int x))) (hv : x + Int32.ofInt z = v) (hi : i < M.2.2.1) (hn : am_nd L = true) (hs : am_st1 L i (.int v) = L') (k : am_A G M X R q L' st w c n) : am_A G M X R pc L st w c n := by
  subst hq
  subst hs
  intro H locs ls hH hL hS
  have h1 : lv_has ls M.2.2.1 ((i, .int x) :: am_lv G L) := ⟨hL.1, hL.2.1, fun z hz => (List.mem_cons.mp hz).elim (fun e => by subst e; exact hL.2.2 _ _ hl) (fun h => hL.has.2.2 z h)⟩
  refine lv_iinc C.1 C.2.1 hd h1 (k := 0) rfl hv hi rfl (fun ls' h2 => k H locs ls' hH (am_L.st1 (v := .int v) rfl (am_nd_ok hn) ⟨h2.1, h2.2.1, fun z hz => h2.2.2 z ?_⟩) hS)
  rcases List.mem_cons.mp hz with e | e
  · rw [e]; exact List.mem_cons_self
  · obtain ⟨e1, e2⟩ := List.mem_filter.mp e
    exact List.mem_cons_of_mem _ (List.mem_filter.mpr ⟨List.mem_cons_of_mem _ e1, e2⟩)
theorem am_if_eq {x : Int32} {off : Int} {tgt : Nat} (C : am_C G M X) (hd : decode M.2.1 pc = .ok (.ifCond .eq off, 3)) (ht : (pc : Int) + off = (tgt : Int)) (hq : pc + 3 = q) (kt : x = 0 → am_A G M X R tgt L st w c n) (kf : ¬ (x = 0) → am_A G M X R q L st w c n) : am_A G M X R pc L (.int x :: st) w c n := by
  subst hq
  exact fun H locs ls hH hL hS => lv_if_eq C.1 C.2.1 hd ht (fun z => kt z H locs ls hH hL hS) (fun z => kf z H locs ls hH hL hS)
theorem am_icmp_eq {x y : Int32} {off : Int} {tgt : Nat} (C : am_C G M X) (hd : decode M.2.1 pc = .ok (.if_icmp .eq off, 3)) (ht : (pc : Int) + off = (tgt : Int)) (hq : pc + 3 = q) (kt : x = y → am_A G M X R tgt L st w c n) (kf : ¬ (x = y) → am_A G M X R q L st w c n) : am_A G M X R pc L (.int y :: .int x :: st) w c n := by
  subst hq
  exact fun H locs ls hH hL hS => lv_icmp_eq C.1 C.2.1 hd ht (fun z => kt z H locs ls hH hL hS) (fun z => kf z H locs ls hH hL hS)
theorem am_if_ne {x : Int32} {off : Int} {tgt : Nat} (C : am_C G M X) (hd : decode M.2.1 pc = .ok (.ifCond .ne off, 3)) (ht : (pc : Int) + off = (tgt : Int)) (hq : pc + 3 = q) (kt : ¬ x = 0 → am_A G M X R tgt L st w c n) (kf : x = 0 → am_A G M X R q L st w c n) : am_A G M X R pc L (.int x :: st) w c n := by
  subst hq
  exact fun H locs ls hH hL hS => lv_if_ne C.1 C.2.1 hd ht (fun z => kt z H locs ls hH hL hS) (fun z => kf z H locs ls hH hL hS)
theorem am_icmp_ne {x y : Int32} {off : Int} {tgt : Nat} (C : am_C G M X) (hd : decode M.2.1 pc = .ok (.if_icmp .ne off, 3)) (ht : (pc : Int) + off = (tgt : Int)) (hq : pc + 3 = q) (kt : ¬ x = y → am_A G M X R tgt L st w c n) (kf : x = y → am_A G M X R q L st w c n) : am_A G M X R pc L (.int y :: .int x :: st) w c n := by
  subst hq
  exact fun H locs ls hH hL hS => lv_icmp_ne C.1 C.2.1 hd ht (fun z => kt z H locs ls hH hL hS) (fun z => kf z H locs ls hH hL hS)
theorem am_if_lt {x : Int32} {off : Int} {tgt : Nat} (C : am_C G M X) (hd : decode M.2.1 pc = .ok (.ifCond .lt off, 3)) (ht : (pc : Int) + off = (tgt : Int)) (hq : pc + 3 = q) (kt : x < 0 → am_A G M X R tgt L st w c n) (kf : ¬ (x < 0) → am_A G M X R q L st w c n) : am_A G M X R pc L (.int x :: st) w c n := by
  subst hq
  exact fun H locs ls hH hL hS => lv_if_lt C.1 C.2.1 hd ht (fun z => kt z H locs ls hH hL hS) (fun z => kf z H locs ls hH hL hS)
theorem am_icmp_lt {x y : Int32} {off : Int} {tgt : Nat} (C : am_C G M X) (hd : decode M.2.1 pc = .ok (.if_icmp .lt off, 3)) (ht : (pc : Int) + off = (tgt : Int)) (hq : pc + 3 = q) (kt : x < y → am_A G M X R tgt L st w c n) (kf : ¬ (x < y) → am_A G M X R q L st w c n) : am_A G M X R pc L (.int y :: .int x :: st) w c n := by
  subst hq
  exact fun H locs ls hH hL hS => lv_icmp_lt C.1 C.2.1 hd ht (fun z => kt z H locs ls hH hL hS) (fun z => kf z H locs ls hH hL hS)
theorem am_if_ge {x : Int32} {off : Int} {tgt : Nat} (C : am_C G M X) (hd : decode M.2.1 pc = .ok (.ifCond .ge off, 3)) (ht : (pc : Int) + off = (tgt : Int)) (hq : pc + 3 = q) (kt : 0 ≤ x → am_A G M X R tgt L st w c n) (kf : ¬ (0 ≤ x) → am_A G M X R q L st w c n) : am_A G M X R pc L (.int x :: st) w c n := by
  subst hq
  exact fun H locs ls hH hL hS => lv_if_ge C.1 C.2.1 hd ht (fun z => kt z H locs ls hH hL hS) (fun z => kf z H locs ls hH hL hS)
theorem am_icmp_ge {x y : Int32} {off : Int} {tgt : Nat} (C : am_C G M X) (hd : decode M.2.1 pc = .ok (.if_icmp .ge off, 3)) (ht : (pc : Int) + off = (tgt : Int)) (hq : pc + 3 = q) (kt : y ≤ x → am_A G M X R tgt L st w c n) (kf : ¬ (y ≤ x) → am_A G M X R q L st w c n) : am_A G M X R pc L (.int y :: .int x :: st) w c n := by
  subst hq
  exact fun H locs ls hH hL hS => lv_icmp_ge C.1 C.2.1 hd ht (fun z => kt z H locs ls hH hL hS) (fun z => kf z H locs ls hH hL hS)
theorem am_if_gt {x : Int32} {off : Int} {tgt : Nat} (C : am_C G M X) (hd : decode M.2.1 pc = .ok (.ifCond .gt off, 3)) (ht : (pc : Int) + off = (tgt : Int)) (hq : pc + 3 = q) (kt : 0 < x → am_A G M X R tgt L st w c n) (kf : ¬ (0 < x) → am_A G M X R q L st w c n) : am_A G M X R pc L (.int x :: st) w c n := by
  subst hq
  exact fun H locs ls hH hL hS => lv_if_gt C.1 C.2.1 hd ht (fun z => kt z H locs ls hH hL hS) (fun z => kf z H locs ls hH hL hS)
theorem am_icmp_gt {x y : Int32} {off : Int} {tgt : Nat} (C : am_C G M X) (hd : decode M.2.1 pc = .ok (.if_icmp .gt off, 3)) (ht : (pc : Int) + off = (tgt : Int)) (hq : pc + 3 = q) (kt : y < x → am_A G M X R tgt L st w c n) (kf : ¬ (y < x) → am_A G M X R q L st w c n) : am_A G M X R pc L (.int y :: .int x :: st) w c n := by
  subst hq
  exact fun H locs ls hH hL hS => lv_icmp_gt C.1 C.2.1 hd ht (fun z => kt z H locs ls hH hL hS) (fun z => kf z H locs ls hH hL hS)
theorem am_if_le {x : Int32} {off : Int} {tgt : Nat} (C : am_C G M X) (hd : decode M.2.1 pc = .ok (.ifCond .le off, 3)) (ht : (pc : Int) + off = (tgt : Int)) (hq : pc + 3 = q) (kt : x ≤ 0 → am_A G M X R tgt L st w c n) (kf : ¬ (x ≤ 0) → am_A G M X R q L st w c n) : am_A G M X R pc L (.int x :: st) w c n := by
  subst hq
  exact fun H locs ls hH hL hS => lv_if_le C.1 C.2.1 hd ht (fun z => kt z H locs ls hH hL hS) (fun z => kf z H locs ls hH hL hS)
theorem am_icmp_le {x y : Int32} {off : Int} {tgt : Nat} (C : am_C G M X) (hd : decode M.2.1 pc = .ok (.if_icmp .le off, 3)) (ht : (pc : Int) + off = (tgt : Int)) (hq : pc + 3 = q) (kt : x ≤ y → am_A G M X R tgt L st w c n) (kf : ¬ (x ≤ y) → am_A G M X R q L st w c n) : am_A G M X R pc L (.int y :: .int x :: st) w c n := by
  subst hq
  exact fun H locs ls hH hL hS => lv_icmp_le C.1 C.2.1 hd ht (fun z => kt z H locs ls hH hL hS) (fun z => kf z H locs ls hH hL hS)
theorem am_goto {off : Int} (C : am_C G M X) (hd : decode M.2.1 pc = .ok (.goto off, 3)) (ht : (pc : Int) + off = (q : Int)) (k : am_A G M X R q L st w c n) : am_A G M X R pc L st w c n :=
  fun H locs ls hH hL hS => lv_goto C.1 C.2.1 hd ht (k H locs ls hH hL hS)
theorem am_ifnull {x : Nat} {off : Int} (C : am_C G M X) (hd : decode M.2.1 pc = .ok (.ifnull off, 3)) (hq : pc + 3 = q) (k : am_A G M X R q L st w c n) : am_A G M X R pc L (.ref x :: st) w c n := by
  subst hq
  exact fun H locs ls hH hL hS => lv_ifnull C.1 C.2.1 hd (k H locs ls hH hL hS)
theorem am_ifnullN {off : Int} (C : am_C G M X) (hd : decode M.2.1 pc = .ok (.ifnull off, 3)) (ht : (pc : Int) + off = (q : Int)) (k : am_A G M X R q L st w c n) : am_A G M X R pc L (.null :: st) w c n :=
  fun H locs ls hH hL hS => lv_ifnullN C.1 C.2.1 hd ht (k H locs ls hH hL hS)
theorem am_ifnonnull {x : Nat} {off : Int} (C : am_C G M X) (hd : decode M.2.1 pc = .ok (.ifnonnull off, 3)) (ht : (pc : Int) + off = (q : Int)) (k : am_A G M X R q L st w c n) : am_A G M X R pc L (.ref x :: st) w c n :=
  fun H locs ls hH hL hS => lv_ifnonnull C.1 C.2.1 hd ht (k H locs ls hH hL hS)
theorem am_ifnonnullN {off : Int} (C : am_C G M X) (hd : decode M.2.1 pc = .ok (.ifnonnull off, 3)) (hq : pc + 3 = q) (k : am_A G M X R q L st w c n) : am_A G M X R pc L (.null :: st) w c n := by
  subst hq
  exact fun H locs ls hH hL hS => lv_ifnonnullN C.1 C.2.1 hd (k H locs ls hH hL hS)
theorem am_dup {v : Value} (C : am_C G M X) (hd : decode M.2.1 pc = .ok (.dup, 1)) (hq : pc + 1 = q) (hv : v.category = 1) (k : am_A G M X R q L (v :: v :: st) w c n) : am_A G M X R pc L (v :: st) w c n := by
  subst hq
  exact fun H locs ls hH hL hS => lv_dup C.1 C.2.1 hd ((am_cat G v).trans hv) (k H locs ls hH hL hS)
theorem am_dup2 {v u : Value} (C : am_C G M X) (hd : decode M.2.1 pc = .ok (.dup2, 1)) (hq : pc + 1 = q) (hv : v.category = 1) (hu : u.category = 1) (k : am_A G M X R q L (v :: u :: v :: u :: st) w c n) : am_A G M X R pc L (v :: u :: st) w c n := by
  subst hq
  exact fun H locs ls hH hL hS => lv_dup2_11 C.1 C.2.1 hd ((am_cat G v).trans hv) ((am_cat G u).trans hu) (k H locs ls hH hL hS)
theorem am_pop {v : Value} (C : am_C G M X) (hd : decode M.2.1 pc = .ok (.pop, 1)) (hq : pc + 1 = q) (hv : v.category = 1) (k : am_A G M X R q L st w c n) : am_A G M X R pc L (v :: st) w c n := by
  subst hq
  exact fun H locs ls hH hL hS => lv_pop C.1 C.2.1 hd ((am_cat G v).trans hv) (k H locs ls hH hL hS)
theorem am_lcmp {x y : Int64} (C : am_C G M X) (hd : decode M.2.1 pc = .ok (.lcmp, 1)) (hq : pc + 1 = q) (k : am_A G M X R q L (.int (lg_cmp x y) :: st) w c n) : am_A G M X R pc L (.long y :: .long x :: st) w c n := by
  subst hq
  exact fun H locs ls hH hL hS => W.lcmp C.1 C.2.1 hd (k H locs ls hH hL hS)
theorem am_tableOut {dflt lo hi : Int} {offs : Array Int} {len : Nat} {x : Int32} (C : am_C G M X) (hd : decode M.2.1 pc = .ok (.tableswitch dflt lo hi offs, len)) (h : x.toInt < lo ∨ hi < x.toInt) (ht : (pc : Int) + dflt = (q : Int)) (k : am_A G M X R q L st w c n) : am_A G M X R pc L (.int x :: st) w c n :=
  fun H locs ls hH hL hS => lv_tableOut C.1 C.2.1 hd h ht (k H locs ls hH hL hS)
theorem am_tableIn {dflt lo hi off : Int} {offs : Array Int} {len : Nat} {x : Int32} (C : am_C G M X) (hd : decode M.2.1 pc = .ok (.tableswitch dflt lo hi offs, len)) (h1 : ¬ x.toInt < lo) (h2 : ¬ hi < x.toInt) (ho : offs[(x.toInt - lo).toNat]? = some off) (ht : (pc : Int) + off = (q : Int)) (k : am_A G M X R q L st w c n) : am_A G M X R pc L (.int x :: st) w c n :=
  fun H locs ls hH hL hS => lv_tableIn C.1 C.2.1 hd h1 h2 ho ht (k H locs ls hH hL hS)
theorem am_lookup {dflt off : Int} {ps : Array (Int × Int)} {len : Nat} {x : Int32} (C : am_C G M X) (hd : decode M.2.1 pc = .ok (.lookupswitch dflt ps, len)) (hp : (ps.toList.zip (ps.toList.drop 1)).all (fun (a, next) => a.1 < next.1) = true) (ho : Op.lookupswitch.offset ps.toList dflt x.toInt = off) (ht : (pc : Int) + off = (q : Int)) (k : am_A G M X R q L st w c n) : am_A G M X R pc L (.int x :: st) w c n :=
  fun H locs ls hH hL hS => lv_lookup C.1 C.2.1 hd hp ho ht (k H locs ls hH hL hS)
end AM
end
section
def am_up {α : Type} (f : Nat → Nat → α) (h k : Nat) (v : α) : Nat → Nat → α := fun a j => if a = h then (if j = k then v else f a j) else f a j
def am_isI : FieldType → Bool
  | .long => false
  | .object _ => false
  | .array _ => false
  | _ => true
def am_isR : FieldType → Bool
  | .object _ => true
  | .array _ => true
  | _ => false
theorem am_val_I {G : am_G} {w : am_W} {t : FieldType} (h : am_isI t = true) (a j : Nat) : am_val G w t a j = .int (w.2.2.2.1 a j) := by cases t <;> first | rfl | (simp [am_isI] at h)
theorem am_val_R {G : am_G} {w : am_W} {t : FieldType} (h : am_isR t = true) (a j : Nat) : am_val G w t a j = va_rf ((w.2.2.1 a j).map (am_rf G)) := by cases t <;> first | rfl | (simp [am_isR] at h)
theorem am_cv_rf (G : am_G) (r : Option Nat) : am_cv G (va_rf r) = va_rf (r.map (am_rf G)) := by cases r <;> rfl
theorem am_rf_lt {G : am_G} {h : Nat} (hh : h < 1000000) : am_rf G h = am_b G + h := if_pos hh
/-- a world that differs from another in one place -/
def am_SE (G : am_G) (w w' : am_W) (h k : Nat) (v : Value) : Prop := w'.1 = w.1 ∧ w'.2.1 = w.2.1 ∧ ∀ a j, am_val G w' (am_ty (w.2.1 a).1 j) a j = if a = h ∧ j = k then v else am_val G w (am_ty (w.2.1 a).1 j) a j
section SE
variable {G : am_G} {N : Nat} {K : Nat → Nat × Nat} {Rf : Nat → Nat → Option Nat} {I : Nat → Nat → Int32} {J : Nat → Nat → Int64} {h k : Nat}
theorem am_SE_I {x : Int32} (ht : am_isI (am_ty (K h).1 k) = true) : am_SE G (N, K, Rf, I, J) (N, K, Rf, am_up I h k x, J) h k (.int x) := by
  refine ⟨rfl, rfl, fun a j => ?_⟩
  by_cases e : a = h ∧ j = k
  · rw [if_pos e]
    obtain ⟨rfl, rfl⟩ := e
    refine (am_val_I ht _ _).trans ?_
    simp [am_up]
  · rw [if_neg e]
    show am_val G (N, K, Rf, am_up I h k x, J) (am_ty (K a).1 j) a j = am_val G (N, K, Rf, I, J) (am_ty (K a).1 j) a j
    have e2 : am_up I h k x a j = I a j := by
      unfold am_up
      by_cases e3 : a = h
      · rw [if_pos e3, if_neg (fun e4 => e ⟨e3, e4⟩)]
      · rw [if_neg e3]
    cases am_ty (K a).1 j <;> first | rfl | exact congrArg Value.int e2
theorem am_SE_J {x : Int64} (ht : am_ty (K h).1 k = .long) : am_SE G (N, K, Rf, I, J) (N, K, Rf, I, am_up J h k x) h k (.long x) := by
  refine ⟨rfl, rfl, fun a j => ?_⟩
  by_cases e : a = h ∧ j = k
  · rw [if_pos e]
    obtain ⟨rfl, rfl⟩ := e
    show am_val G (N, K, Rf, I, am_up J a j x) (am_ty (K a).1 j) a j = _
    rw [ht]
    simp [am_val, am_up]
  · rw [if_neg e]
    show am_val G (N, K, Rf, I, am_up J h k x) (am_ty (K a).1 j) a j = am_val G (N, K, Rf, I, J) (am_ty (K a).1 j) a j
    have e2 : am_up J h k x a j = J a j := by
      unfold am_up
      by_cases e3 : a = h
      · rw [if_pos e3, if_neg (fun e4 => e ⟨e3, e4⟩)]
      · rw [if_neg e3]
    cases am_ty (K a).1 j <;> first | rfl | exact congrArg Value.long e2
theorem am_SE_R {x : Option Nat} (ht : am_isR (am_ty (K h).1 k) = true) : am_SE G (N, K, Rf, I, J) (N, K, am_up Rf h k x, I, J) h k (am_cv G (va_rf x)) := by
  refine ⟨rfl, rfl, fun a j => ?_⟩
  by_cases e : a = h ∧ j = k
  · rw [if_pos e]
    obtain ⟨rfl, rfl⟩ := e
    refine (am_val_R ht _ _).trans ?_
    rw [am_cv_rf]
    simp [am_up]
  · rw [if_neg e]
    show am_val G (N, K, am_up Rf h k x, I, J) (am_ty (K a).1 j) a j = am_val G (N, K, Rf, I, J) (am_ty (K a).1 j) a j
    have e2 : am_up Rf h k x a j = Rf a j := by
      unfold am_up
      by_cases e3 : a = h
      · rw [if_pos e3, if_neg (fun e4 => e ⟨e3, e4⟩)]
      · rw [if_neg e3]
    cases am_ty (K a).1 j <;> first | rfl | exact congrArg (fun r => va_rf (Option.map (am_rf G) r)) e2
end SE
/-- the class of number ci, all that is needed of it -/
def am_CB (ci : Nat) (C : String) (T : u_T) (N : Nat) : Prop := vwCl[ci]? = some (C, T, N) ∧ (∀ w ∈ u_ws C T N, w ∈ am_ws) ∧ (∀ k, k < N → parseFieldDescriptor (T k).2.2.1 = some (am_ty ci k)) ∧ (∀ a, a < N → ∀ b, b < N → a ≠ b → (T a).2.1 ≠ (T b).2.1) ∧ am_nf ci = N ∧ ci < 20
/-- an entry of a class's pool that names a field -/
def am_FB (own : String) (idx ci k : Nat) : Prop := ∃ (C : String) (T : u_T) (N : Nat), am_CB ci C T N ∧ k < N ∧ (Cond.fieldLink own idx (T k).1 (T k).2.1 (T k).2.2.1 ∈ am_ws ∨ ∃ host : String, Cond.fieldLinkNest own idx (T k).1 (T k).2.1 (T k).2.2.1 host ∈ am_nest)
/-- one that is written to: not final -/
def am_FW (own : String) (idx ci k : Nat) : Prop := ∃ (C : String) (T : u_T) (N : Nat), am_CB ci C T N ∧ k < N ∧ (T k).2.2.2 = false ∧ (Cond.fieldLink own idx (T k).1 (T k).2.1 (T k).2.2.1 ∈ am_ws ∨ ∃ host : String, Cond.fieldLinkNest own idx (T k).1 (T k).2.1 (T k).2.2.1 host ∈ am_nest)
/-- a final one, written in its class's constructor -/
def am_FF (own : String) (idx ci k : Nat) : Prop := ∃ (C : String) (T : u_T) (N : Nat), am_CB ci C T N ∧ k < N ∧ (T k).2.2.2 = true ∧ (T k).1 = own ∧ Cond.fieldLink own idx (T k).1 (T k).2.1 (T k).2.2.1 ∈ am_ws
section CELLS
variable {G : am_G} {w w' : am_W} {H H' : Heap} {h k : Nat}
theorem am_H.lt (hH : am_H G w H) (hh : h < w.1) : am_rf G h = am_b G + h := am_rf_lt (by have := hH.2.1; omega)
theorem am_H.obj (hH : am_H G w H) (hh : h < w.1) (hk : (w.2.1 h).1 < 20) : t_OB (am_b G + h) (G.1.1 (w.2.1 h).1) (am_nf (w.2.1 h).1) (G.1.2 (w.2.1 h).1) H (fun k => am_val G w (am_ty (w.2.1 h).1 k) h k) := by
  have e := hH.2.2 h hh
  unfold am_cell at e
  rwa [if_pos hk] at e
theorem am_H.arr (hH : am_H G w H) (hh : h < w.1) (hk : ¬ (w.2.1 h).1 < 20) : H[am_b G + h]? = some (arrV (G.2.1 ((w.2.1 h).1 - 20)) (w.2.1 h).2 (fun k => am_val G w (am_ty (w.2.1 h).1 k) h k)) := by
  have e := hH.2.2 h hh
  unfold am_cell at e
  rwa [if_neg hk] at e
theorem am_H.sto {v : Value} (hH : am_H G w H) (hh : h < w.1) (hs : am_SE G w w' h k v) (z : H'.size = H.size) (oq : ∀ q : Nat, q ≠ am_b G + h → H'[q]? = H[q]?) (hc : am_cell G w' H' h) : am_H G w' H' := by
  obtain ⟨s1, s2, s3⟩ := hs
  refine ⟨by rw [z, hH.1, s1], by rw [s1]; exact hH.2.1, fun a ha => ?_⟩
  by_cases e : a = h
  · rw [e]; exact hc
  · have e2 : H'[am_b G + a]? = H[am_b G + a]? := oq _ (by omega)
    have h1 := hH.2.2 a (by rw [← s1]; exact ha)
    have e3 : (fun k => am_val G w' (am_ty (w.2.1 a).1 k) a k) = (fun k => am_val G w (am_ty (w.2.1 a).1 k) a k) := by
      funext j
      rw [s3, if_neg (fun q => e q.1)]
    unfold am_cell at h1 ⊢
    rw [s2, e3]
    by_cases hk : (w.2.1 a).1 < 20
    · rw [if_pos hk] at h1 ⊢
      exact h1.kept e2
    · rw [if_neg hk] at h1 ⊢
      rw [e2]; exact h1
theorem am_H.sta {v : Value} (hH : am_H G w H) (hh : h < w.1) (hk : ¬ (w.2.1 h).1 < 20) (hs : am_SE G w w' h k v) (e : H'[am_b G + h]? = some ((arrV (G.2.1 ((w.2.1 h).1 - 20)) (w.2.1 h).2 (fun k => am_val G w (am_ty (w.2.1 h).1 k) h k)).setSlot k v)) (z : H'.size = H.size) (oq : ∀ q : Nat, q ≠ am_b G + h → H'[q]? = H[q]?) : am_H G w' H' := by
  refine hH.sto hh hs z oq ?_
  obtain ⟨s1, s2, s3⟩ := hs
  unfold am_cell
  rw [s2, if_neg hk, e, arrV_store]
  have e3 : updV (fun k => am_val G w (am_ty (w.2.1 h).1 k) h k) k v = (fun k => am_val G w' (am_ty (w.2.1 h).1 k) h k) := by
    funext j
    rw [s3]
    by_cases hj : j = k
    · rw [if_pos ⟨rfl, hj⟩]; simp [updV, hj]
    · rw [if_neg (fun q => hj q.2)]; simp [updV, hj]
  rw [e3]
end CELLS
section AM
variable {G : am_G} {M : am_M} {X : am_X} {R : Room} {pc q : Nat} {L : List (Option Value)} {st : List Value} {c n : Nat} {N : Nat} {K : Nat → Nat × Nat} {Rf : Nat → Nat → Option Nat} {I : Nat → Nat → Int32} {J : Nat → Nat → Int64} {h k ci len : Nat}
theorem am_E_arr (C : am_C G M X) (t : Nat) {q : ClassId × FieldType} (h : (am_tys G)[t]? = some q) : ArrOfT (am_s X) q.1 q.2 := (C.2.2.2.2.2.2.2.1.1.2 t q h).1
theorem am_iaload {i : Int32} (C : am_C G M X) (hd : decode M.2.1 pc = .ok (.iaload, 1)) (hq : pc + 1 = q) (hk : K h = (20, len)) (hh : h < N) (hi : vp_in i len) (kk : am_A G M X R q L (.int (I h i.toNatClampNeg) :: st) (N, K, Rf, I, J) c n) : am_A G M X R pc L (.int i :: .ref h :: st) (N, K, Rf, I, J) c n := by
  subst hq
  intro H locs ls hH hL hS
  have hk1 : (K h).1 = 20 := by rw [hk]
  have e := hH.arr hh (by show ¬ (K h).1 < 20; rw [hk1]; decide)
  have hlt : i.toNatClampNeg < len := Nat.not_le.mp fun q => hi (Or.inr q)
  simp only [hk] at e
  have e1 : ((Value.int i :: .ref h :: st).map (am_cv G)) = .int i :: .ref (am_b G + h) :: st.map (am_cv G) := by
    show Value.int i :: .ref (am_rf G h) :: _ = _
    rw [hH.lt hh]
  rw [e1]
  refine W.iald (v := am_cv G (.int (I h i.toNatClampNeg))) C.1 C.2.1 e (am_E_arr C 0 (q := (G.2.1 0, .int)) rfl len _) (fun q => by cases q) (by rw [arrV_size]; exact hi) (by rw [arrV_read _ _ hlt]; rfl) rfl rfl hd (kk H locs ls hH hL hS)
theorem am_baload {i : Int32} (C : am_C G M X) (hd : decode M.2.1 pc = .ok (.baload, 1)) (hq : pc + 1 = q) (hk : K h = (22, len)) (hh : h < N) (hi : vp_in i len) (kk : am_A G M X R q L (.int (I h i.toNatClampNeg) :: st) (N, K, Rf, I, J) c n) : am_A G M X R pc L (.int i :: .ref h :: st) (N, K, Rf, I, J) c n := by
  subst hq
  intro H locs ls hH hL hS
  have hk1 : (K h).1 = 22 := by rw [hk]
  have e := hH.arr hh (by show ¬ (K h).1 < 20; rw [hk1]; decide)
  have hlt : i.toNatClampNeg < len := Nat.not_le.mp fun q => hi (Or.inr q)
  simp only [hk] at e
  have e1 : ((Value.int i :: .ref h :: st).map (am_cv G)) = .int i :: .ref (am_b G + h) :: st.map (am_cv G) := by
    show Value.int i :: .ref (am_rf G h) :: _ = _
    rw [hH.lt hh]
  rw [e1]
  refine W.bald (v := am_cv G (.int (I h i.toNatClampNeg))) C.1 C.2.1 e (am_E_arr C 2 (q := (G.2.1 2, .byte)) rfl len _) (fun q => by cases q) (by rw [arrV_size]; exact hi) (by rw [arrV_read _ _ hlt]; rfl) rfl rfl hd (kk H locs ls hH hL hS)
theorem am_zaload {i : Int32} (C : am_C G M X) (hd : decode M.2.1 pc = .ok (.baload, 1)) (hq : pc + 1 = q) (hk : K h = (23, len)) (hh : h < N) (hi : vp_in i len) (kk : am_A G M X R q L (.int (I h i.toNatClampNeg) :: st) (N, K, Rf, I, J) c n) : am_A G M X R pc L (.int i :: .ref h :: st) (N, K, Rf, I, J) c n := by
  subst hq
  intro H locs ls hH hL hS
  have hk1 : (K h).1 = 23 := by rw [hk]
  have e := hH.arr hh (by show ¬ (K h).1 < 20; rw [hk1]; decide)
  have hlt : i.toNatClampNeg < len := Nat.not_le.mp fun q => hi (Or.inr q)
  simp only [hk] at e
  have e1 : ((Value.int i :: .ref h :: st).map (am_cv G)) = .int i :: .ref (am_b G + h) :: st.map (am_cv G) := by
    show Value.int i :: .ref (am_rf G h) :: _ = _
    rw [hH.lt hh]
  rw [e1]
  refine W.zald (v := am_cv G (.int (I h i.toNatClampNeg))) C.1 C.2.1 e (am_E_arr C 3 (q := (G.2.1 3, .boolean)) rfl len _) (fun q => by cases q) (by rw [arrV_size]; exact hi) (by rw [arrV_read _ _ hlt]; rfl) rfl rfl hd (kk H locs ls hH hL hS)
theorem am_laload {i : Int32} (C : am_C G M X) (hd : decode M.2.1 pc = .ok (.laload, 1)) (hq : pc + 1 = q) (hk : K h = (21, len)) (hh : h < N) (hi : vp_in i len) (kk : am_A G M X R q L (.long (J h i.toNatClampNeg) :: st) (N, K, Rf, I, J) c n) : am_A G M X R pc L (.int i :: .ref h :: st) (N, K, Rf, I, J) c n := by
  subst hq
  intro H locs ls hH hL hS
  have hk1 : (K h).1 = 21 := by rw [hk]
  have e := hH.arr hh (by show ¬ (K h).1 < 20; rw [hk1]; decide)
  have hlt : i.toNatClampNeg < len := Nat.not_le.mp fun q => hi (Or.inr q)
  simp only [hk] at e
  have e1 : ((Value.int i :: .ref h :: st).map (am_cv G)) = .int i :: .ref (am_b G + h) :: st.map (am_cv G) := by
    show Value.int i :: .ref (am_rf G h) :: _ = _
    rw [hH.lt hh]
  rw [e1]
  refine W.lald (v := am_cv G (.long (J h i.toNatClampNeg))) C.1 C.2.1 e (am_E_arr C 1 (q := (G.2.1 1, .long)) rfl len _) (fun q => by cases q) (by rw [arrV_size]; exact hi) (by rw [arrV_read _ _ hlt]; rfl) rfl rfl hd (kk H locs ls hH hL hS)
theorem am_paload {i : Int32} (C : am_C G M X) (hd : decode M.2.1 pc = .ok (.aaload, 1)) (hq : pc + 1 = q) (hk : K h = (24, len)) (hh : h < N) (hi : vp_in i len) (kk : am_A G M X R q L (va_rf (Rf h i.toNatClampNeg) :: st) (N, K, Rf, I, J) c n) : am_A G M X R pc L (.int i :: .ref h :: st) (N, K, Rf, I, J) c n := by
  subst hq
  intro H locs ls hH hL hS
  have hk1 : (K h).1 = 24 := by rw [hk]
  have e := hH.arr hh (by show ¬ (K h).1 < 20; rw [hk1]; decide)
  have hlt : i.toNatClampNeg < len := Nat.not_le.mp fun q => hi (Or.inr q)
  simp only [hk] at e
  have e1 : ((Value.int i :: .ref h :: st).map (am_cv G)) = .int i :: .ref (am_b G + h) :: st.map (am_cv G) := by
    show Value.int i :: .ref (am_rf G h) :: _ = _
    rw [hH.lt hh]
  rw [e1]
  refine W.aald (v := am_cv G (va_rf (Rf h i.toNatClampNeg))) C.1 C.2.1 e (am_E_arr C 4 (q := (G.2.1 4, .object "VectorWays$Parts")) rfl len _) rfl (fun q => by cases q) (by rw [arrV_size]; exact hi) (by rw [arrV_read _ _ hlt]; rw [am_cv_rf]; rfl) rfl rfl hd (kk H locs ls hH hL hS)
theorem am_saload {i : Int32} (C : am_C G M X) (hd : decode M.2.1 pc = .ok (.aaload, 1)) (hq : pc + 1 = q) (hk : K h = (25, len)) (hh : h < N) (hi : vp_in i len) (kk : am_A G M X R q L (va_rf (Rf h i.toNatClampNeg) :: st) (N, K, Rf, I, J) c n) : am_A G M X R pc L (.int i :: .ref h :: st) (N, K, Rf, I, J) c n := by
  subst hq
  intro H locs ls hH hL hS
  have hk1 : (K h).1 = 25 := by rw [hk]
  have e := hH.arr hh (by show ¬ (K h).1 < 20; rw [hk1]; decide)
  have hlt : i.toNatClampNeg < len := Nat.not_le.mp fun q => hi (Or.inr q)
  simp only [hk] at e
  have e1 : ((Value.int i :: .ref h :: st).map (am_cv G)) = .int i :: .ref (am_b G + h) :: st.map (am_cv G) := by
    show Value.int i :: .ref (am_rf G h) :: _ = _
    rw [hH.lt hh]
  rw [e1]
  refine W.aald (v := am_cv G (va_rf (Rf h i.toNatClampNeg))) C.1 C.2.1 e (am_E_arr C 5 (q := (G.2.1 5, .object "VectorWays$Sheet")) rfl len _) rfl (fun q => by cases q) (by rw [arrV_size]; exact hi) (by rw [arrV_read _ _ hlt]; rw [am_cv_rf]; rfl) rfl rfl hd (kk H locs ls hH hL hS)
theorem am_iastore {i : Int32} {x : Int32} (C : am_C G M X) (hd : decode M.2.1 pc = .ok (.iastore, 1)) (hq : pc + 1 = q) (hk : K h = (20, len)) (hh : h < N) (hi : vp_in i len) (kk : am_A G M X R q L st (N, K, Rf, am_up I h i.toNatClampNeg x, J) c n) : am_A G M X R pc L (.int x :: .int i :: .ref h :: st) (N, K, Rf, I, J) c n := by
  subst hq
  intro H locs ls hH hL hS
  have hk1 : (K h).1 = 20 := by rw [hk]
  have hn : ¬ (K h).1 < 20 := by rw [hk1]; decide
  have e := hH.arr hh hn
  have hlen : (K h).2 = len := by rw [hk]
  have e1 : ((.int x :: Value.int i :: .ref h :: st).map (am_cv G)) = .int x :: .int i :: .ref (am_b G + h) :: st.map (am_cv G) := by
    show .int x :: Value.int i :: .ref (am_rf G h) :: _ = _
    rw [hH.lt hh]
  rw [e1]
  refine W.iast C.1 C.2.1 e (by have := am_E_arr C 0 (q := (G.2.1 0, .int)) rfl ((K h).2) (fun k => am_val G (N, K, Rf, I, J) (am_ty (K h).1 k) h k); simpa [hk1] using this) (fun q => by cases q) (by rw [arrV_size]; show ¬ (i < 0 ∨ (K h).2 ≤ _); rw [hlen]; exact hi) rfl rfl hd (fun H' e2 z oq => kk H' _ ls (hH.sta hh hn (am_SE_I (by rw [hk1]; rfl)) e2 z oq) hL (hS.put z oq (Nat.le_add_right _ _)))
theorem am_lastore {i : Int32} {x : Int64} (C : am_C G M X) (hd : decode M.2.1 pc = .ok (.lastore, 1)) (hq : pc + 1 = q) (hk : K h = (21, len)) (hh : h < N) (hi : vp_in i len) (kk : am_A G M X R q L st (N, K, Rf, I, am_up J h i.toNatClampNeg x) c n) : am_A G M X R pc L (.long x :: .int i :: .ref h :: st) (N, K, Rf, I, J) c n := by
  subst hq
  intro H locs ls hH hL hS
  have hk1 : (K h).1 = 21 := by rw [hk]
  have hn : ¬ (K h).1 < 20 := by rw [hk1]; decide
  have e := hH.arr hh hn
  have hlen : (K h).2 = len := by rw [hk]
  have e1 : ((.long x :: Value.int i :: .ref h :: st).map (am_cv G)) = .long x :: .int i :: .ref (am_b G + h) :: st.map (am_cv G) := by
    show .long x :: Value.int i :: .ref (am_rf G h) :: _ = _
    rw [hH.lt hh]
  rw [e1]
  refine W.last C.1 C.2.1 e (by have := am_E_arr C 1 (q := (G.2.1 1, .long)) rfl ((K h).2) (fun k => am_val G (N, K, Rf, I, J) (am_ty (K h).1 k) h k); simpa [hk1] using this) (fun q => by cases q) (by rw [arrV_size]; show ¬ (i < 0 ∨ (K h).2 ≤ _); rw [hlen]; exact hi) rfl rfl hd (fun H' e2 z oq => kk H' _ ls (hH.sta hh hn (am_SE_J (by rw [hk1]; rfl)) e2 z oq) hL (hS.put z oq (Nat.le_add_right _ _)))
theorem am_bastore {i : Int32} {x : Int32} (C : am_C G M X) (hd : decode M.2.1 pc = .ok (.bastore, 1)) (hq : pc + 1 = q) (hk : K h = (22, len)) (hh : h < N) (hi : vp_in i len) (kk : am_A G M X R q L st (N, K, Rf, am_up I h i.toNatClampNeg x.toInt8.toInt32, J) c n) : am_A G M X R pc L (.int x :: .int i :: .ref h :: st) (N, K, Rf, I, J) c n := by
  subst hq
  intro H locs ls hH hL hS
  have hk1 : (K h).1 = 22 := by rw [hk]
  have hn : ¬ (K h).1 < 20 := by rw [hk1]; decide
  have e := hH.arr hh hn
  have hlen : (K h).2 = len := by rw [hk]
  have e1 : ((.int x :: Value.int i :: .ref h :: st).map (am_cv G)) = .int x :: .int i :: .ref (am_b G + h) :: st.map (am_cv G) := by
    show .int x :: Value.int i :: .ref (am_rf G h) :: _ = _
    rw [hH.lt hh]
  rw [e1]
  refine W.bast C.1 C.2.1 e (by have := am_E_arr C 2 (q := (G.2.1 2, .byte)) rfl ((K h).2) (fun k => am_val G (N, K, Rf, I, J) (am_ty (K h).1 k) h k); simpa [hk1] using this) (fun q => by cases q) (by rw [arrV_size]; show ¬ (i < 0 ∨ (K h).2 ≤ _); rw [hlen]; exact hi) rfl rfl hd (fun H' e2 z oq => kk H' _ ls (hH.sta hh hn (am_SE_I (by rw [hk1]; rfl)) e2 z oq) hL (hS.put z oq (Nat.le_add_right _ _)))
theorem am_zastore {i : Int32} {x : Int32} (C : am_C G M X) (hd : decode M.2.1 pc = .ok (.bastore, 1)) (hq : pc + 1 = q) (hk : K h = (23, len)) (hh : h < N) (hi : vp_in i len) (kk : am_A G M X R q L st (N, K, Rf, am_up I h i.toNatClampNeg (x &&& 1), J) c n) : am_A G M X R pc L (.int x :: .int i :: .ref h :: st) (N, K, Rf, I, J) c n := by
  subst hq
  intro H locs ls hH hL hS
  have hk1 : (K h).1 = 23 := by rw [hk]
  have hn : ¬ (K h).1 < 20 := by rw [hk1]; decide
  have e := hH.arr hh hn
  have hlen : (K h).2 = len := by rw [hk]
  have e1 : ((.int x :: Value.int i :: .ref h :: st).map (am_cv G)) = .int x :: .int i :: .ref (am_b G + h) :: st.map (am_cv G) := by
    show .int x :: Value.int i :: .ref (am_rf G h) :: _ = _
    rw [hH.lt hh]
  rw [e1]
  refine W.zast C.1 C.2.1 e (by have := am_E_arr C 3 (q := (G.2.1 3, .boolean)) rfl ((K h).2) (fun k => am_val G (N, K, Rf, I, J) (am_ty (K h).1 k) h k); simpa [hk1] using this) (fun q => by cases q) (by rw [arrV_size]; show ¬ (i < 0 ∨ (K h).2 ≤ _); rw [hlen]; exact hi) rfl rfl hd (fun H' e2 z oq => kk H' _ ls (hH.sta hh hn (am_SE_I (by rw [hk1]; rfl)) e2 z oq) hL (hS.put z oq (Nat.le_add_right _ _)))
theorem am_alen {t : Nat} {v : Int32} (C : am_C G M X) (hd : decode M.2.1 pc = .ok (.arraylength, 1)) (hq : pc + 1 = q) (hk : K h = (20 + t, len)) (ht : t < 6) (hh : h < N) (hv : Int32.ofNat len = v) (kk : am_A G M X R q L (.int v :: st) (N, K, Rf, I, J) c n) : am_A G M X R pc L (.ref h :: st) (N, K, Rf, I, J) c n := by
  subst hq
  intro H locs ls hH hL hS
  have hk1 : (K h).1 = 20 + t := by rw [hk]
  have e := hH.arr hh (by show ¬ (K h).1 < 20; omega)
  simp only [hk, Nat.add_sub_cancel_left] at e
  have e1 : ((Value.ref h :: st).map (am_cv G)) = .ref (am_b G + h) :: st.map (am_cv G) := by
    show Value.ref (am_rf G h) :: _ = _
    rw [hH.lt hh]
  rw [e1]
  have hA : ∃ ty, ArrOfT (am_s X) (G.2.1 t) ty := by
    rcases (show t = 0 ∨ t = 1 ∨ t = 2 ∨ t = 3 ∨ t = 4 ∨ t = 5 by omega) with rfl | rfl | rfl | rfl | rfl | rfl
    · exact ⟨_, am_E_arr C 0 rfl⟩
    · exact ⟨_, am_E_arr C 1 rfl⟩
    · exact ⟨_, am_E_arr C 2 rfl⟩
    · exact ⟨_, am_E_arr C 3 rfl⟩
    · exact ⟨_, am_E_arr C 4 rfl⟩
    · exact ⟨_, am_E_arr C 5 rfl⟩
  obtain ⟨ty, hA⟩ := hA
  exact W.alen (n := v) C.1 C.2.1 e (hA len _) (by rw [arrV_size]; exact hv) rfl rfl hd (kk H locs ls hH hL hS)
theorem am_get (C : am_C G M X) {idx : Nat} (F : am_FB M.1.cls idx ci k) (hd : decode M.2.1 pc = .ok (.getfield idx, 3)) (hq : pc + 3 = q) (hk : K h = (ci, len)) (hh : h < N) {v : Value} (hv : ∀ G : am_G, am_cv G v = am_val G (N, K, Rf, I, J) (am_ty ci k) h k) (kk : am_A G M X R q L (v :: st) (N, K, Rf, I, J) c n) : am_A G M X R pc L (.ref h :: st) (N, K, Rf, I, J) c n := by
  subst hq
  intro H locs ls hH hL hS
  obtain ⟨Cn, T, Nf, ⟨b1, b2, b3, b4, b5, b6⟩, hkN, hlink⟩ := F
  have hk1 : (K h).1 = ci := by rw [hk]
  have e := hH.obj hh (by show (K h).1 < 20; rw [hk1]; exact b6)
  simp only [hk, b5] at e
  obtain ⟨cell, q1, q2, q3, q4⟩ := e
  have hts := C.2.2.2.2.2.1
  obtain ⟨hSl, hfc, kC, hkC, hkind⟩ := C.2.2.2.2.2.2.2.1.1.1 ci _ b1
  obtain ⟨cf, kf, fi, f, hi, hsl⟩ := hSl k hkN
  have e1 : ((Value.ref h :: st).map (am_cv G)) = .ref (am_b G + h) :: st.map (am_cv G) := by
    show Value.ref (am_rf G h) :: _ = _
    rw [hH.lt hh]
  rw [e1]
  have hst := (u_facts hfc hkC (u_lays hts b2 hkN) hi).1
  have hval : cell.slots[f.slot]? = some (am_cv G v) := by rw [hsl, q4 k hkN, hv]
  rcases hlink with hl | ⟨host, hl⟩
  · exact W.getf C.1 C.2.1 C.2.2.2.2.1 (hts _ hl) hi hst q1 (by rw [q3]; exact fun h => by cases h) (v := am_cv G v) hval rfl rfl hd (kk H locs ls hH hL hS)
  · exact va_Wgetf C.1 C.2.1 C.2.2.2.2.1 (va_Nw.use (by
      obtain ⟨_, hf⟩ := List.mem_filter.mp hl
      rfl) (C.2.2.2.2.2.2.2.1.2.1 _ hl)) hi hst q1 (by rw [q3]; exact fun h => by cases h) (v := am_cv G v) hval rfl rfl hd (kk H locs ls hH hL hS)
theorem am_getI (C : am_C G M X) {idx : Nat} (F : am_FB M.1.cls idx ci k) (hd : decode M.2.1 pc = .ok (.getfield idx, 3)) (hq : pc + 3 = q) (ht : am_isI (am_ty ci k) = true) (hk : K h = (ci, len)) (hh : h < N) (kk : am_A G M X R q L (.int (I h k) :: st) (N, K, Rf, I, J) c n) : am_A G M X R pc L (.ref h :: st) (N, K, Rf, I, J) c n :=
  am_get C F hd hq hk hh (v := .int (I h k)) (fun G => (am_val_I (G := G) (w := (N, K, Rf, I, J)) ht h k).symm) kk
theorem am_getJ (C : am_C G M X) {idx : Nat} (F : am_FB M.1.cls idx ci k) (hd : decode M.2.1 pc = .ok (.getfield idx, 3)) (hq : pc + 3 = q) (ht : am_ty ci k = .long) (hk : K h = (ci, len)) (hh : h < N) (kk : am_A G M X R q L (.long (J h k) :: st) (N, K, Rf, I, J) c n) : am_A G M X R pc L (.ref h :: st) (N, K, Rf, I, J) c n :=
  am_get C F hd hq hk hh (v := .long (J h k)) (fun G => by rw [ht]; rfl) kk
theorem am_getR (C : am_C G M X) {idx : Nat} (F : am_FB M.1.cls idx ci k) (hd : decode M.2.1 pc = .ok (.getfield idx, 3)) (hq : pc + 3 = q) (ht : am_isR (am_ty ci k) = true) (hk : K h = (ci, len)) (hh : h < N) {r : Nat} (hr : Rf h k = some r) (kk : am_A G M X R q L (.ref r :: st) (N, K, Rf, I, J) c n) : am_A G M X R pc L (.ref h :: st) (N, K, Rf, I, J) c n :=
  am_get C F hd hq hk hh (v := .ref r) (fun G => by rw [am_val_R ht h k]; show _ = va_rf ((Rf h k).map (am_rf G)); rw [hr]; rfl) kk
/-- a field is written: any value -/
theorem am_putV (C : am_C G M X) {idx : Nat} (F : am_FW M.1.cls idx ci k) (hd : decode M.2.1 pc = .ok (.putfield idx, 3)) (hq : pc + 3 = q) (hk : K h = (ci, len)) (hh : h < N) {v : Value} {w' : am_W} (hw : am_SE G (N, K, Rf, I, J) w' h k (am_cv G v)) (hn : narrow (am_ty ci k) (am_cv G v) = am_cv G v) (hf : fits (am_ty ci k) (am_cv G v) = true) (kk : am_A G M X R q L st w' c n) : am_A G M X R pc L (v :: .ref h :: st) (N, K, Rf, I, J) c n := by
  subst hq
  intro H locs ls hH hL hS
  obtain ⟨Cn, T, Nf, ⟨b1, b2, b3, b4, b5, b6⟩, hkN, hfin, hlink⟩ := F
  have hk1 : (K h).1 = ci := by rw [hk]
  have hk2 : (K h).1 < 20 := by rw [hk1]; exact b6
  have e := hH.obj hh hk2
  simp only [hk, b5] at e
  obtain ⟨cell, q1, q2, q3, q4⟩ := e
  have hts := C.2.2.2.2.2.1
  have hap := va_apart (own := M.1.cls) hts b2 (am_ty ci) b3 b4 C.2.2.2.2.2.2.2.1.1 b1
  obtain ⟨hSl, hfc, kC, hkC, hkind⟩ := C.2.2.2.2.2.2.2.1.1.1 ci _ b1
  obtain ⟨cf, kf, fi, f, hi, hsl⟩ := hSl k hkN
  have e1 : ((v :: Value.ref h :: st).map (am_cv G)) = am_cv G v :: .ref (am_b G + h) :: st.map (am_cv G) := by
    show _ :: Value.ref (am_rf G h) :: _ = _
    rw [hH.lt hh]
  rw [e1]
  have hst := (u_facts hfc hkC (u_lays hts b2 hkN) hi).1
  have hlay := hts _ (b2 _ (u_in_lay hkN))
  unfold u_lay at hlay
  rw [if_neg (by rw [hfin]; decide)] at hlay
  have h6 := u_store hfc hkC hkind hlay hi (b3 k hkN) hn hf
  have fin : ∀ H' : Heap, H'[am_b G + h]? = some (cell.setSlot f.slot (am_cv G v)) → H'.size = H.size → (∀ q, q ≠ am_b G + h → H'[q]? = H[q]?) → am_H G w' H' := by
    intro H' e2 z oq
    refine hH.sto hh hw z oq ?_
    obtain ⟨s1, s2, s3⟩ := hw
    unfold am_cell
    rw [s2, if_pos hk2]
    simp only [hk, b5]
    refine ⟨_, e2, q2, q3, fun j hj => ?_⟩
    rw [hsl, t_set q4 hap hkN _ j hj]
    have s4 := s3 h j
    simp only [hk] at s4
    show some (updV _ k _ j) = some (am_val G w' (am_ty ci j) h j)
    rw [s4]
    by_cases hjk : j = k
    · simp [updV, hjk]
    · simp [updV, hjk]
  rcases hlink with hl | ⟨host, hl⟩
  · exact W.putK C.1 C.2.1 (f := f) ⟨C.2.2.2.2.1, hts _ hl, ⟨_, _, _, hi⟩, hst⟩ (by rw [q2]; exact h6) q1 q3 (by rw [hsl]; exact k2_hasslot (q4 k hkN)) rfl rfl hd fun H' e2 z oq => kk H' _ ls (fin H' e2 z oq) hL (hS.put z oq (Nat.le_add_right _ _))
  · exact va_WputK C.1 C.2.1 (f := f) C.2.2.2.2.1 (va_Nw.use rfl (C.2.2.2.2.2.2.2.1.2.1 _ hl)) hi hst (by rw [q2]; exact h6) q1 q3 (by rw [hsl]; exact k2_hasslot (q4 k hkN)) rfl rfl hd fun H' e2 z oq => kk H' _ ls (fin H' e2 z oq) hL (hS.put z oq (Nat.le_add_right _ _))
theorem am_putI {x : Int32} (C : am_C G M X) {idx : Nat} (F : am_FW M.1.cls idx ci k) (hd : decode M.2.1 pc = .ok (.putfield idx, 3)) (hq : pc + 3 = q) (ht : am_ty ci k = .int) (hk : K h = (ci, len)) (hh : h < N) (kk : am_A G M X R q L st (N, K, Rf, am_up I h k x, J) c n) : am_A G M X R pc L (.int x :: .ref h :: st) (N, K, Rf, I, J) c n :=
  am_putV C F hd hq hk hh (v := .int x) (am_SE_I (by simp only [hk]; rw [ht]; rfl)) (by rw [ht]; rfl) (by rw [ht]; rfl) kk
theorem am_putZ {x : Int32} (C : am_C G M X) {idx : Nat} (F : am_FW M.1.cls idx ci k) (hd : decode M.2.1 pc = .ok (.putfield idx, 3)) (hq : pc + 3 = q) (ht : am_ty ci k = .boolean) (hx : x = 0 ∨ x = 1) (hk : K h = (ci, len)) (hh : h < N) (kk : am_A G M X R q L st (N, K, Rf, am_up I h k x, J) c n) : am_A G M X R pc L (.int x :: .ref h :: st) (N, K, Rf, I, J) c n :=
  am_putV C F hd hq hk hh (v := .int x) (am_SE_I (by simp only [hk]; rw [ht]; rfl)) (by rw [ht]; rcases hx with rfl | rfl <;> rfl) (by rw [ht]; rcases hx with rfl | rfl <;> rfl) kk
theorem am_putJ {x : Int64} (C : am_C G M X) {idx : Nat} (F : am_FW M.1.cls idx ci k) (hd : decode M.2.1 pc = .ok (.putfield idx, 3)) (hq : pc + 3 = q) (ht : am_ty ci k = .long) (hk : K h = (ci, len)) (hh : h < N) (kk : am_A G M X R q L st (N, K, Rf, I, am_up J h k x) c n) : am_A G M X R pc L (.long x :: .ref h :: st) (N, K, Rf, I, J) c n :=
  am_putV C F hd hq hk hh (v := .long x) (am_SE_J (by simp only [hk]; rw [ht])) (by rw [ht]; rfl) (by rw [ht]; rfl) kk
end AM
end
section
/-! what stays so while the machine runs on -/
theorem am_nest_warm {s U : State} (hW : s.WarmedH U.vm) {w : Cond} (hw : w ∈ am_nest) (h : va_Nw w s) : va_Nw w U := by
  obtain ⟨-, h2⟩ := List.mem_filter.mp hw
  split at h2
  · exact va_Nw.warmF hW h
  · exact va_Nw.warmM hW h
  · cases h2
theorem am_nest_same {s U : State} (hv : s.vm = U.vm) {w : Cond} (hw : w ∈ am_nest) (h : va_Nw w s) : va_Nw w U := by
  obtain ⟨-, h2⟩ := List.mem_filter.mp hw
  split at h2
  · exact va_Nw.same rfl hv h
  · exact va_Nw.same rfl hv h
  · cases h2
theorem am_E.on {G : am_G} {s U : State} {H : Heap} {locs : List Loc} (h : am_E G s) (hS : va_S (am_F G) s.heap H locs) (hU : U.heap = H) (hW : s.WarmedH U.vm) : am_E G U := by
  obtain ⟨h1, h2, h3, h4, h5, h6, h7, h8, h9⟩ := h
  have hA := hW.alike
  subst hU
  exact ⟨va_K.moved hA h1, fun w hw => am_nest_warm hW hw (h2 w hw), h3.moved hA, h4.moved hA, (vk_S.moved hA h5).kept hS.2.1, fun i q hq => (h6 i q hq).warm hW, (va_Z.moved hA h7).kept hS.2.1, (va_Z.moved hA h8).kept hS.2.1, h9⟩
theorem am_E.calling {G : am_G} {U : State} {g : JFrame} {mk : MethodId} {a : Array Value} (h : am_E G U) : am_E G (U.calling g mk a) := by
  obtain ⟨h1, h2, h3, h4, h5, h6, h7, h8, h9⟩ := h
  have hv : U.vm = (U.calling g mk a).vm := rfl
  have hA : U.vm.Alike (U.calling g mk a).vm := Vm.Alike.refl U.vm
  exact ⟨va_K.moved hA h1, fun w hw => am_nest_same hv hw (h2 w hw), h3.moved hA, h4.moved hA, vk_S.moved hA h5, fun i q hq => (h6 i q hq).same hv.symm, va_Z.moved hA h7, va_Z.moved hA h8, h9⟩
/-! a method, spoken of in the world's words: d: how many calls may stand open in it; mc, ms: cells and slots that it makes -/
def am_rm (d mc ms : Nat) : Room := { frames := d, cells := mc, slots := ms, locals := 64 * d }
def am_Qc (G : am_G) (Q : Option Value → am_W → Prop) : Array Value → State → Outcome → State → Prop := fun _ st oc t => (∃ (r : Option Value) (w : am_W), oc = .returned (r.map (am_cv G)) ∧ Q r w ∧ am_H G w t.heap) ∧ va_F (am_F G) st t
def am_S (G : am_G) (M : am_M) (d mc ms : Nat) (av : List Value) (w : am_W) (Q : Option Value → am_W → Prop) : Prop :=
  ∀ l : Launch, Met l M.1 (Cond.code M.1 M.2.1 M.2.2.1 M.2.2.2 :: am_ws) (am_rm d mc ms) (va_Pc (av.map (am_cv G)) (fun U => am_H G w U.heap ∧ am_E G U)) (am_Qc G Q) mc ms (am_F G)
/-- a walk of a method's body: what is to come is its own return -/
def am_T (G : am_G) (X : am_X) (Q : Option Value → am_W → Prop) (mc ms : Nat) : Prop := X.2.2.2.2.2.2.2.2.2 = MQ X.2.2.2.2.2.2.1 (am_Qc G Q) X.2.2.2.2.2.1 X.2.2.2.1 mc ms (am_F G)
theorem am_args_cv (G : am_G) : ∀ (i : Nat) (av : List Value), lv_args i (av.map (am_cv G)) = (lv_args i av).map (fun q => (q.1, am_cv G q.2))
  | _, [] => rfl
  | i, v :: vs => by
    simp only [List.map_cons, lv_args, am_cat]
    rw [am_args_cv]
theorem am_sl_len (G : am_G) (av : List Value) : (lg_sl (av.map (am_cv G))).length = (lg_sl av).length := by
  induction av with
  | nil => rfl
  | cons v vs ih =>
    simp only [lg_sl, List.map_cons, List.flatMap_cons, List.length_append, am_cat] at ih ⊢
    rw [ih]
    by_cases h : v.category = 2 <;> simp [h]
/-- the locals with which a method begins -/
def am_en (i : Nat) (l : List (Nat × Value)) : Option Value := (l.find? (fun q => q.1 == i)).map (fun q => q.2)
theorem am_spec {G : am_G} {M : am_M} {d mc ms : Nat} {av : List Value} {w : am_W} {Q : Option Value → am_W → Prop} {L : List (Option Value)} (hy : plainName M.1.cls = true) (hn : (lg_sl av).length ≤ M.2.2.1) (hL : L = (List.range M.2.2.1).map (fun i => am_en i (lv_args 0 av)))
    (body : ∀ X : am_X, am_C G M X → am_T G X Q mc ms → am_A G M X (am_rm d mc ms) 0 L [] w 0 0) : am_S G M d mc ms av w Q := by
  intro l
  refine Met.ofW (cc := M.2.1) (maxL := M.2.2.1) (ret := M.2.2.2) hy rfl ?_
  intro p e s m args below meth c s₁ B hml hv
  obtain ⟨rfl, hH, hE⟩ := hv
  have hts := atoms_spec (ws := Cond.code M.1 M.2.1 M.2.2.1 M.2.2.2 :: am_ws) B.pre
  have hown : s.vm.findClass M.1.cls = some m.cls := findClass_of_methodNamed B.named
  rw [lg_entry_eq]
  refine body (p, l, e, s, m, (av.map (am_cv G)).toArray, below, meth, c, MQ below (am_Qc G Q) (av.map (am_cv G)).toArray s mc ms (am_F G)) ⟨B.exec, B.bytes, B.returns, hml, hown, fun w hw => hts w (List.mem_cons_of_mem _ hw), B.notSynchronized, hE, by show am_b G ≤ s.heap.size; rw [hH.1]; omega, fun h => (name_of_methodNamed B.named B.method).1.trans h⟩ rfl s.heap [] _ hH ?_ va_S.rf
  have h1 := lv_entry (av.map (am_cv G)) (n := M.2.2.1) (by rw [am_sl_len]; exact hn)
  refine am_L.of h1 fun j v hj => ?_
  rw [hL, List.getElem?_map] at hj
  have hj2 : am_en j (lv_args 0 av) = some v := by
    cases hr : (List.range M.2.2.1)[j]? with
    | none => rw [hr] at hj; cases hj
    | some i =>
      rw [hr] at hj
      have := List.getElem?_range (n := M.2.2.1) (i := j)
      obtain ⟨hlt, hji⟩ := List.getElem?_eq_some_iff.mp hr
      rw [List.getElem_range] at hji
      subst hji
      exact Option.some.inj hj
  rw [am_args_cv]
  unfold am_en at hj2
  cases hf : (lv_args 0 av).find? (fun q => q.1 == j) with
  | none => rw [hf] at hj2; cases hj2
  | some q =>
    rw [hf] at hj2
    have h2 := List.find?_some hf
    have h3 : q.1 = j := by simpa using h2
    have h4 : q.2 = v := Option.some.inj hj2
    refine List.mem_map.mpr ⟨q, List.mem_of_find?_eq_some hf, ?_⟩
    rw [h3, h4]
section AM
variable {G : am_G} {M : am_M} {X : am_X} {R : Room} {pc q : Nat} {L : List (Option Value)} {st : List Value} {w : am_W} {c n mc ms : Nat} {Q : Option Value → am_W → Prop}
theorem am_locs {H : Heap} {locs : List Loc} (hS : va_S (am_F G) (am_s X).heap H locs) : ∀ q ∈ locs, am_F G q.base := hS.2.2
theorem am_vret (C : am_C G M X) (T : am_T G X Q mc ms) (hd : decode M.2.1 pc = .ok (.return_, 1)) (hr : M.2.2.2 = none) (hc : c ≤ mc) (hn : n ≤ ms) (hQ : Q none w) : am_A G M X R pc L [] w c n := by
  refine am_widen hc hn fun H locs ls hH hL hS => ?_
  rw [T]
  exact W.vret C.1 C.2.1 (C.2.2.1.trans hr) (fun t ht hW => ⟨⟨none, w, rfl, hQ, by rw [ht]; exact hH⟩, hS.F ht⟩) hS.2.2 hd C.2.2.2.2.2.2.1
theorem am_iret {x : Int32} (C : am_C G M X) (T : am_T G X Q mc ms) (hd : decode M.2.1 pc = .ok (.ireturn, 1)) (hr : M.2.2.2 = some .int) (hc : c ≤ mc) (hn : n ≤ ms) (hQ : Q (some (.int x)) w) : am_A G M X R pc L [.int x] w c n := by
  refine am_widen hc hn fun H locs ls hH hL hS => ?_
  rw [T]
  exact W.iret C.1 C.2.1 (C.2.2.1.trans hr) (fun t ht hW => ⟨⟨some (.int x), w, rfl, hQ, by rw [ht]; exact hH⟩, hS.F ht⟩) hS.2.2 hd C.2.2.2.2.2.2.1
theorem am_zret {x : Int32} {ty : FieldType} (C : am_C G M X) (T : am_T G X Q mc ms) (hd : decode M.2.1 pc = .ok (.ireturn, 1)) (hr : M.2.2.2 = some ty) (hx : narrow ty (.int x) = .int x) (hc : c ≤ mc) (hn : n ≤ ms) (hQ : Q (some (.int x)) w) : am_A G M X R pc L [.int x] w c n := by
  refine am_widen hc hn fun H locs ls hH hL hS => ?_
  rw [T]
  exact W.zret C.1 C.2.1 (C.2.2.1.trans hr) hx (fun t ht hW => ⟨⟨some (.int x), w, rfl, hQ, by rw [ht]; exact hH⟩, hS.F ht⟩) hS.2.2 hd C.2.2.2.2.2.2.1
theorem am_lret {x : Int64} (C : am_C G M X) (T : am_T G X Q mc ms) (hd : decode M.2.1 pc = .ok (.lreturn, 1)) (hr : M.2.2.2 = some .long) (hc : c ≤ mc) (hn : n ≤ ms) (hQ : Q (some (.long x)) w) : am_A G M X R pc L [.long x] w c n := by
  refine am_widen hc hn fun H locs ls hH hL hS => ?_
  rw [T]
  exact W.lret C.1 C.2.1 (C.2.2.1.trans hr) (fun t ht hW => ⟨⟨some (.long x), w, rfl, hQ, by rw [ht]; exact hH⟩, hS.F ht⟩) hS.2.2 hd C.2.2.2.2.2.2.1
theorem am_aret {x : Option Nat} {ty : FieldType} (C : am_C G M X) (T : am_T G X Q mc ms) (hd : decode M.2.1 pc = .ok (.areturn, 1)) (hr : M.2.2.2 = some ty) (hx : (∃ n, ty = .object n) ∨ ∃ t, ty = .array t) (hc : c ≤ mc) (hn : n ≤ ms) (hQ : Q (some (va_rf x)) w) : am_A G M X R pc L [va_rf x] w c n := by
  refine am_widen hc hn fun H locs ls hH hL hS => ?_
  rw [T]
  have e : ([va_rf x].map (am_cv G)) = [am_cv G (va_rf x)] := rfl
  rw [e]
  exact W.aret C.1 C.2.1 (C.2.2.1.trans hr) hx (by cases x with
    | none => exact Or.inl rfl
    | some y => exact Or.inr ⟨_, rfl⟩) (fun t ht hW => ⟨⟨some (va_rf x), w, rfl, hQ, by rw [ht]; exact hH⟩, hS.F ht⟩) hS.2.2 hd C.2.2.2.2.2.2.1
/-- a method, all that a call needs of it: its code, its class, how many arguments -/
def am_MB (M : am_M) (na : Nat) : Prop := Cond.code M.1 M.2.1 M.2.2.1 M.2.2.2 ∈ am_ws ∧ Cond.initialized M.1.cls ∈ am_ws ∧ (M.1.cls ≠ "java/lang/invoke/MethodHandle" ∧ M.1.cls ≠ "java/lang/invoke/VarHandle" ∧ (parseMethodDescriptor M.1.desc).map (fun d => d.parameters.length) = some na) ∧ M.2.2.1 ≤ 44 ∧ (∀ w ∈ Cond.code M.1 M.2.1 M.2.2.1 M.2.2.2 :: am_ws, goodWord w = true)
theorem am_good (M : am_M) (h : goodWord (Cond.code M.1 M.2.1 M.2.2.1 M.2.2.2) = true) : ∀ w ∈ Cond.code M.1 M.2.1 M.2.2.1 M.2.2.2 :: am_ws, goodWord w = true := fun w hw => (List.mem_cons.mp hw).elim (fun e => by rw [e]; exact h) (fun h => (List.mem_filter.mp h).2)
theorem am_gin {M' : am_M} {na : Nat} (B : am_MB M' na) : GoodIn am_ws (Cond.code M'.1 M'.2.1 M'.2.2.1 M'.2.2.2 :: am_ws) := fun w hw => ⟨(List.mem_cons.mp hw).elim (fun e => by rw [e]; exact B.1) (fun h => h), good_of_word (B.2.2.2.2 w hw)⟩
theorem am_blind {av : List Value} : FrameBlind (va_Pc (av.map (am_cv G)) (fun U => am_H G w U.heap ∧ am_E G U)) := fun a U g mk h => ⟨h.1, h.2.1, h.2.2.calling⟩
theorem am_pre {av : List Value} (C : am_C G M X) {H : Heap} {locs : List Loc} (hH : am_H G w H) (hS : va_S (am_F G) (am_s X).heap H locs) (U : State) (hU : U.heap = H) (hW : (am_s X).WarmedH U.vm) : va_Pc (av.map (am_cv G)) (fun U => am_H G w U.heap ∧ am_E G U) (av.map (am_cv G)).toArray U := ⟨rfl, by rw [hU]; exact hH, C.2.2.2.2.2.2.2.1.on hS hU hW⟩
/-- behind a call -/
theorem am_back {H : Heap} {locs : List Loc} {ls : Array Slot} {rest : List Value} {a : Array Value} {st0 : List Value} (hr : va_Run X.1 X.2.1 X.2.2.1 R X.2.2.2.1 X.2.2.2.2.1 X.2.2.2.2.2.1 X.2.2.2.2.2.2.1 X.2.2.2.2.2.2.2.1 X.2.2.2.2.2.2.2.2.1 H locs c n mc ms (F0 X.2.2.2.2.1 pc ls st0) (rest.map (am_cv G)) (am_Qc G Q a) (am_F G)) (hL : am_L G ls M.2.2.1 L) (hS : va_S (am_F G) (am_s X).heap H locs)
    (kk : ∀ (r : Option Value) (w' : am_W), Q r w' → am_A G M X R (pc + 3) L (r.toList ++ rest) w' (c + mc) (n + ms)) : W X.1 X.2.1 X.2.2.1 R X.2.2.2.1 X.2.2.2.2.1 X.2.2.2.2.2.1 X.2.2.2.2.2.2.1 X.2.2.2.2.2.2.2.1 X.2.2.2.2.2.2.2.2.1 H locs c n X.2.2.2.2.2.2.2.2.2 (F0 X.2.2.2.2.1 pc ls st0) := by
  intro T hT Y
  obtain ⟨v, st₀, t, T', Lx, h0, Y', hLx, e1, e2, ⟨⟨r, w', hv, hq, hH1⟩, hz, hk⟩, go⟩ := hr T hT Y
  cases hv
  rw [h0] at hz hk
  have hS2 : va_S (am_F G) (am_s X).heap t.heap (locs ++ Lx) := ⟨Nat.le_trans hS.1 hz, fun q h1 h2 => by rw [hk q (Nat.lt_of_lt_of_le h1 hS.1) h2]; exact hS.2.1 q h1 h2, fun q hq => (List.mem_append.mp hq).elim (hS.2.2 q) (hLx q)⟩
  obtain ⟨t2, a1, b1⟩ := kk r w' hq t.heap (locs ++ Lx) ls hH1 hL hS2 T' e1 Y'
  have es : ((r.map (am_cv G)).toList ++ rest.map (am_cv G)) = (r.toList ++ rest).map (am_cv G) := by cases r <;> rfl
  refine ⟨t2, go t2 ?_, b1⟩
  rw [es]
  exact a1
theorem am_catsum (rest : List Value) : ((rest.map (am_cv G)).map fun v => v.category).sum = (rest.map fun v => v.category).sum := by
  rw [List.map_map]
  congr 1
  exact List.map_congr_left fun v _ => am_cat G v
theorem am_stk (As rest : List Value) (r : Value) : ((As.reverse ++ r :: rest).map (am_cv G)) = (As.map (am_cv G)).reverse ++ am_cv G r :: rest.map (am_cv G) := by simp
variable {M' : am_M} {d na idx : Nat} {As rest : List Value}
/-- a static method is called -/
theorem am_callS (C : am_C G M X) (B : am_MB M' na) (hs : Cond.static M'.1 ∈ am_ws) (hl : Cond.methodLink M.1.cls idx M'.1 ∈ am_ws) (hd : decode M.2.1 pc = .ok (.invokestatic idx, 3)) (hq : pc + 3 = q) (sp : am_S G M' d mc ms As w Q) (hst : st = As.reverse ++ rest) (hna : As.length = na) (hR : d + 1 ≤ R.frames ∧ 64 * (d + 1) ≤ R.locals) (hf : c + mc ≤ R.cells ∧ n + ms ≤ R.slots) (hsum : (rest.map fun v => v.category).sum ≤ 8)
    (kk : ∀ (r : Option Value) (w' : am_W), Q r w' → am_A G M X R q L (r.toList ++ rest) w' (c + mc) (n + ms)) : am_A G M X R pc L st w c n := by
  subst hq; subst hst
  intro H locs ls hH hL hS
  have hts := C.2.2.2.2.2.1
  have hw := am_gin B
  have hB : CallB R (am_s X) X.2.2.2.2.2.1 M.1.cls idx M'.1 M'.2.1 M'.2.2.1 M'.2.2.2 (Cond.code M'.1 M'.2.1 M'.2.2.1 M'.2.2.2 :: am_ws) (am_rm d mc ms) mc ms na := callB_of na hts hw rfl rfl rfl (hts _ B.2.1) (hts _ hl) B.2.2.1 ⟨hR.1, by have := B.2.2.2.1; show 8 + (M'.2.2.1 + 11) + 64 * d ≤ _; omega⟩
  exact am_back (a := (As.map (am_cv G)).toArray) (va_runS ⟨C.1, C.2.1, C.2.2.2.1, C.2.2.2.2.1, hts⟩ (sp X.2.1) ⟨hB, hts _ hs⟩ ⟨am_blind, fun U hU hW => am_pre C hH hS U hU hW⟩ rfl (by rw [List.length_map]; exact hna) hL.1 (by show ((As.reverse ++ rest).map (am_cv G)) = _; simp) (lv_room (by rw [am_catsum]; exact hsum)) hd hf) hL hS kk
/-- a private or public method of the same class, of an object of it -/
theorem am_callV {h len ci Nf : Nat} {T : u_T} (C : am_C G M X) (B : am_MB M' na) (hi : Cond.instanceMethod M'.1 ∈ am_ws) (hse : Cond.selects M'.1.cls M'.1 M'.1 ∈ am_ws) (hl : Cond.methodLink M.1.cls idx M'.1 ∈ am_ws) (hcb : am_CB ci M'.1.cls T Nf) (hk : w.2.1 h = (ci, len)) (hh : h < w.1) (hd : decode M.2.1 pc = .ok (.invokevirtual idx, 3)) (hq : pc + 3 = q) (sp : am_S G M' d mc ms (.ref h :: As) w Q) (hst : st = As.reverse ++ .ref h :: rest) (hna : As.length = na) (hR : d + 1 ≤ R.frames ∧ 64 * (d + 1) ≤ R.locals) (hf : c + mc ≤ R.cells ∧ n + ms ≤ R.slots) (hsum : (rest.map fun v => v.category).sum ≤ 8)
    (kk : ∀ (r : Option Value) (w' : am_W), Q r w' → am_A G M X R q L (r.toList ++ rest) w' (c + mc) (n + ms)) : am_A G M X R pc L st w c n := by
  subst hq; subst hst
  intro H locs ls hH hL hS
  have hts := C.2.2.2.2.2.1
  have hB : CallB R (am_s X) X.2.2.2.2.2.1 M.1.cls idx M'.1 M'.2.1 M'.2.2.1 M'.2.2.2 (Cond.code M'.1 M'.2.1 M'.2.2.1 M'.2.2.2 :: am_ws) (am_rm d mc ms) mc ms na := callB_of na hts (am_gin B) rfl rfl rfl (hts _ B.2.1) (hts _ hl) B.2.2.1 ⟨hR.1, by have := B.2.2.2.1; show 8 + (M'.2.2.1 + 11) + 64 * d ≤ _; omega⟩
  have hk1 : (w.2.1 h).1 = ci := by rw [hk]
  have hrec : ∃ cell : Cell, H[am_b G + h]? = some cell ∧ cell.vm.isStatics = false ∧ (am_s X).vm.findClass M'.1.cls = some cell.cls := by
    have e := hH.obj hh (by rw [hk1]; exact hcb.2.2.2.2.2)
    obtain ⟨cell, q1, q2, q3, -⟩ := e
    exact ⟨cell, q1, by rw [q3]; rfl, by rw [q2, hk1]; exact (C.2.2.2.2.2.2.2.1.1.1 ci _ hcb.1).2.1⟩
  have erf : am_cv G (.ref h) = .ref (am_b G + h) := by show Value.ref (am_rf G h) = _; rw [hH.lt hh]
  exact am_back (a := (Value.ref (am_b G + h) :: As.map (am_cv G)).toArray) (va_runV (b := am_b G + h) (As := As.map (am_cv G)) ⟨C.1, C.2.1, C.2.2.2.1, C.2.2.2.2.1, hts⟩ (sp X.2.1) ⟨hB, hts _ hi, hts _ hse⟩ ⟨am_blind, hrec, fun U hU hW => by rw [← erf]; exact am_pre C hH hS U hU hW⟩ rfl (by rw [List.length_map]; exact hna) hL.1 (by show ((As.reverse ++ Value.ref h :: rest).map (am_cv G)) = _; rw [am_stk, erf]) (lv_room (by rw [am_catsum]; exact hsum)) hd hf) hL hS kk
/-- the same, of a nest mate -/
theorem am_callN {h len ci Nf : Nat} {T : u_T} {host : String} (C : am_C G M X) (B : am_MB M' na) (hi : Cond.instanceMethod M'.1 ∈ am_ws) (hse : Cond.selects M'.1.cls M'.1 M'.1 ∈ am_ws) (hl : Cond.methodLinkNest M.1.cls idx M'.1 host ∈ am_nest) (hcb : am_CB ci M'.1.cls T Nf) (hk : w.2.1 h = (ci, len)) (hh : h < w.1) (hd : decode M.2.1 pc = .ok (.invokevirtual idx, 3)) (hq : pc + 3 = q) (sp : am_S G M' d mc ms (.ref h :: As) w Q) (hst : st = As.reverse ++ .ref h :: rest) (hna : As.length = na) (hR : d + 1 ≤ R.frames ∧ 64 * (d + 1) ≤ R.locals) (hf : c + mc ≤ R.cells ∧ n + ms ≤ R.slots) (hsum : (rest.map fun v => v.category).sum ≤ 8)
    (kk : ∀ (r : Option Value) (w' : am_W), Q r w' → am_A G M X R q L (r.toList ++ rest) w' (c + mc) (n + ms)) : am_A G M X R pc L st w c n := by
  subst hq; subst hst
  intro H locs ls hH hL hS
  have hts := C.2.2.2.2.2.1
  have hB : va_CN R (am_s X) X.2.2.2.2.2.1 M.1.cls idx M'.1 host M'.2.1 M'.2.2.1 M'.2.2.2 (Cond.code M'.1 M'.2.1 M'.2.2.1 M'.2.2.2 :: am_ws) (am_rm d mc ms) mc ms na := va_cnB na hts (am_gin B) rfl rfl rfl (C.2.2.2.2.2.2.2.1.2.1 _ hl) (hts _ B.2.1) B.2.2.1 ⟨hR.1, by have := B.2.2.2.1; show 8 + (M'.2.2.1 + 11) + 64 * d ≤ _; omega⟩
  have hk1 : (w.2.1 h).1 = ci := by rw [hk]
  have hrec : ∃ cell : Cell, H[am_b G + h]? = some cell ∧ cell.vm.isStatics = false ∧ (am_s X).vm.findClass M'.1.cls = some cell.cls := by
    have e := hH.obj hh (by rw [hk1]; exact hcb.2.2.2.2.2)
    obtain ⟨cell, q1, q2, q3, -⟩ := e
    exact ⟨cell, q1, by rw [q3]; rfl, by rw [q2, hk1]; exact (C.2.2.2.2.2.2.2.1.1.1 ci _ hcb.1).2.1⟩
  have erf : am_cv G (.ref h) = .ref (am_b G + h) := by show Value.ref (am_rf G h) = _; rw [hH.lt hh]
  exact am_back (a := (Value.ref (am_b G + h) :: As.map (am_cv G)).toArray) (va_runVN (b := am_b G + h) (As := As.map (am_cv G)) ⟨C.1, C.2.1, C.2.2.2.1, C.2.2.2.2.1, hts⟩ (sp X.2.1) ⟨hB, hts _ hi, hts _ hse⟩ ⟨am_blind, hrec, fun U hU hW => by rw [← erf]; exact am_pre C hH hS U hU hW⟩ rfl (by rw [List.length_map]; exact hna) hL.1 (by show ((As.reverse ++ Value.ref h :: rest).map (am_cv G)) = _; rw [am_stk, erf]) (lv_room (by rw [am_catsum]; exact hsum)) hd hf) hL hS kk
/-- a constructor: own, public -/
theorem am_callI {h : Nat} (C : am_C G M X) (B : am_MB M' na) (hret : M'.2.2.2 = none) (hnm : M'.1.name = "<init>") (hi : Cond.instanceMethod M'.1 ∈ am_ws) (hl : Cond.methodLink M.1.cls idx M'.1 ∈ am_ws) (hh : h < w.1) (hd : decode M.2.1 pc = .ok (.invokespecial idx, 3)) (hq : pc + 3 = q) (sp : am_S G M' d mc ms (.ref h :: As) w Q) (hst : st = As.reverse ++ .ref h :: rest) (hna : As.length = na) (hR : d + 1 ≤ R.frames ∧ 64 * (d + 1) ≤ R.locals) (hf : c + mc ≤ R.cells ∧ n + ms ≤ R.slots) (hsum : (rest.map fun v => v.category).sum ≤ 8)
    (kk : ∀ (r : Option Value) (w' : am_W), Q r w' → am_A G M X R q L (r.toList ++ rest) w' (c + mc) (n + ms)) : am_A G M X R pc L st w c n := by
  subst hq; subst hst
  intro H locs ls hH hL hS
  have hts := C.2.2.2.2.2.1
  have hw : (Cond.code M'.1 M'.2.1 M'.2.2.1 M'.2.2.2 :: am_ws) = Cond.code M'.1 M'.2.1 M'.2.2.1 none :: am_ws := by rw [hret]
  have hB : CallB R (am_s X) X.2.2.2.2.2.1 M.1.cls idx M'.1 M'.2.1 M'.2.2.1 none (Cond.code M'.1 M'.2.1 M'.2.2.1 M'.2.2.2 :: am_ws) (am_rm d mc ms) mc ms na := callB_of na hts (am_gin B) hw rfl rfl (hts _ B.2.1) (hts _ hl) B.2.2.1 ⟨hR.1, by have := B.2.2.2.1; show 8 + (M'.2.2.1 + 11) + 64 * d ≤ _; omega⟩
  have erf : am_cv G (.ref h) = .ref (am_b G + h) := by show Value.ref (am_rf G h) = _; rw [hH.lt hh]
  exact am_back (a := (Value.ref (am_b G + h) :: As.map (am_cv G)).toArray) (va_runI (b := am_b G + h) (As := As.map (am_cv G)) ⟨C.1, C.2.1, C.2.2.2.1, C.2.2.2.2.1, hts⟩ (sp X.2.1) ⟨hB, hnm, hts _ hi⟩ ⟨am_blind, fun U hU hW => by rw [← erf]; exact am_pre C hH hS U hU hW⟩ rfl (by rw [List.length_map]; exact hna) hL.1 (by show ((As.reverse ++ Value.ref h :: rest).map (am_cv G)) = _; rw [am_stk, erf]) (lv_room (by rw [am_catsum]; exact hsum)) hd hf) hL hS kk
/-- a constructor of a nest mate -/
theorem am_callIN {h : Nat} {host : String} (C : am_C G M X) (B : am_MB M' na) (hret : M'.2.2.2 = none) (hnm : M'.1.name = "<init>") (hi : Cond.instanceMethod M'.1 ∈ am_ws) (hl : Cond.methodLinkNest M.1.cls idx M'.1 host ∈ am_nest) (hh : h < w.1) (hd : decode M.2.1 pc = .ok (.invokespecial idx, 3)) (hq : pc + 3 = q) (sp : am_S G M' d mc ms (.ref h :: As) w Q) (hst : st = As.reverse ++ .ref h :: rest) (hna : As.length = na) (hR : d + 1 ≤ R.frames ∧ 64 * (d + 1) ≤ R.locals) (hf : c + mc ≤ R.cells ∧ n + ms ≤ R.slots) (hsum : (rest.map fun v => v.category).sum ≤ 8)
    (kk : ∀ (r : Option Value) (w' : am_W), Q r w' → am_A G M X R q L (r.toList ++ rest) w' (c + mc) (n + ms)) : am_A G M X R pc L st w c n := by
  subst hq; subst hst
  intro H locs ls hH hL hS
  have hts := C.2.2.2.2.2.1
  have hw : (Cond.code M'.1 M'.2.1 M'.2.2.1 M'.2.2.2 :: am_ws) = Cond.code M'.1 M'.2.1 M'.2.2.1 none :: am_ws := by rw [hret]
  have hB : va_CN R (am_s X) X.2.2.2.2.2.1 M.1.cls idx M'.1 host M'.2.1 M'.2.2.1 none (Cond.code M'.1 M'.2.1 M'.2.2.1 M'.2.2.2 :: am_ws) (am_rm d mc ms) mc ms na := va_cnB na hts (am_gin B) hw rfl rfl (C.2.2.2.2.2.2.2.1.2.1 _ hl) (hts _ B.2.1) B.2.2.1 ⟨hR.1, by have := B.2.2.2.1; show 8 + (M'.2.2.1 + 11) + 64 * d ≤ _; omega⟩
  have erf : am_cv G (.ref h) = .ref (am_b G + h) := by show Value.ref (am_rf G h) = _; rw [hH.lt hh]
  exact am_back (a := (Value.ref (am_b G + h) :: As.map (am_cv G)).toArray) (va_runIN (b := am_b G + h) (As := As.map (am_cv G)) ⟨C.1, C.2.1, C.2.2.2.1, C.2.2.2.2.1, hts⟩ (sp X.2.1) ⟨hB, hnm, hts _ hi⟩ ⟨am_blind, fun U hU hW => by rw [← erf]; exact am_pre C hH hS U hU hW⟩ rfl (by rw [List.length_map]; exact hna) hL.1 (by show ((As.reverse ++ Value.ref h :: rest).map (am_cv G)) = _; rw [am_stk, erf]) (lv_room (by rw [am_catsum]; exact hsum)) hd hf) hL hS kk
/-- Object's own constructor -/
theorem am_objInit {h : Nat} (C : am_C G M X) (h1 : Cond.methodLink M.1.cls idx Lib.objectInit ∈ am_ws) (h2 : Cond.instanceMethod Lib.objectInit ∈ am_ws) (h3 : Cond.code Lib.objectInit ⟨#[0xb1]⟩ 1 none ∈ am_ws) (hd : decode M.2.1 pc = .ok (.invokespecial idx, 3)) (hq : pc + 3 = q) (hf : 1 ≤ R.frames) (hR : 64 ≤ R.locals) (hsum : (st.map fun v => v.category).sum ≤ 8) (kk : am_A G M X R q L st w c n) : am_A G M X R pc L (.ref h :: st) w c n := by
  subst hq
  intro H locs ls hH hL hS
  have hts := C.2.2.2.2.2.1
  exact W.objInit C.1 C.2.1 C.2.2.2.2.1 (hts _ h1) (hts _ h2) (hts _ h3) rfl (by rw [C.2.2.2.1]; exact hL.1) rfl hd hf (by rw [am_catsum]; show 2 * 0 + _ + 12 ≤ _; omega) (kk H locs ls hH hL hS)
/-- what a method answers: an int, a long, nothing, a cell or null -/
def am_qi (Q : Int32 → am_W → Prop) : Option Value → am_W → Prop := fun r w => ∃ v, r = some (.int v) ∧ Q v w
def am_ql (Q : Int64 → am_W → Prop) : Option Value → am_W → Prop := fun r w => ∃ v, r = some (.long v) ∧ Q v w
def am_qv (Q : am_W → Prop) : Option Value → am_W → Prop := fun r w => r = none ∧ Q w
def am_qr (Q : Option Nat → am_W → Prop) : Option Value → am_W → Prop := fun r w => ∃ v, r = some (va_rf v) ∧ Q v w
variable {P : Option Value → am_W → Prop}
theorem am_ri {Q : Int32 → am_W → Prop} (k : ∀ v w', Q v w' → am_A G M X R pc L (.int v :: rest) w' c n) : ∀ (r : Option Value) (w' : am_W), am_qi Q r w' → am_A G M X R pc L (r.toList ++ rest) w' c n := fun r w' h => by
  obtain ⟨v, rfl, hv⟩ := h
  exact k v w' hv
theorem am_rl {Q : Int64 → am_W → Prop} (k : ∀ v w', Q v w' → am_A G M X R pc L (.long v :: rest) w' c n) : ∀ (r : Option Value) (w' : am_W), am_ql Q r w' → am_A G M X R pc L (r.toList ++ rest) w' c n := fun r w' h => by
  obtain ⟨v, rfl, hv⟩ := h
  exact k v w' hv
theorem am_rv {Q : am_W → Prop} (k : ∀ w', Q w' → am_A G M X R pc L rest w' c n) : ∀ (r : Option Value) (w' : am_W), am_qv Q r w' → am_A G M X R pc L (r.toList ++ rest) w' c n := fun r w' h => by
  obtain ⟨rfl, hv⟩ := h
  exact k w' hv
theorem am_rr {Q : Option Nat → am_W → Prop} (k : ∀ v w', Q v w' → am_A G M X R pc L (va_rf v :: rest) w' c n) : ∀ (r : Option Value) (w' : am_W), am_qr Q r w' → am_A G M X R pc L (r.toList ++ rest) w' c n := fun r w' h => by
  obtain ⟨v, rfl, hv⟩ := h
  exact k v w' hv
end AM
end
